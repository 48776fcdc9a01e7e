section SPMW
theorem sp_nx_tr {v : Nat} (hv : v < 94) : (nI (sp_t (4 * (v / 2) + 1)) <<< ((1 : Int32) &&& 31)) ||| nI (v % 2) = nI (sp_nx v true) := by
  have h : ∀ v, v < 94 → (nI (sp_t (4 * (v / 2) + 1)) <<< ((1 : Int32) &&& 31)) ||| nI (v % 2) = nI (sp_nx v true) := by decide +kernel
  exact h v hv
theorem sp_nx_f1 {v : Nat} (hv : v < 94) (c : nI (sp_t (4 * (v / 2) + 3)) = 1) : (nI (sp_t (4 * (v / 2) + 2)) <<< ((1 : Int32) &&& 31)) ||| (1 - nI (v % 2)) = nI (sp_nx v false) := by
  have h : ∀ v, v < 94 → nI (sp_t (4 * (v / 2) + 3)) = 1 → (nI (sp_t (4 * (v / 2) + 2)) <<< ((1 : Int32) &&& 31)) ||| (1 - nI (v % 2)) = nI (sp_nx v false) := by decide +kernel
  exact h v hv c
theorem sp_nx_f2 {v : Nat} (hv : v < 94) (c : ¬ nI (sp_t (4 * (v / 2) + 3)) = 1) : (nI (sp_t (4 * (v / 2) + 2)) <<< ((1 : Int32) &&& 31)) ||| nI (v % 2) = nI (sp_nx v false) := by
  have h : ∀ v, v < 94 → ¬ nI (sp_t (4 * (v / 2) + 3)) = 1 → (nI (sp_t (4 * (v / 2) + 2)) <<< ((1 : Int32) &&& 31)) ||| nI (v % 2) = nI (sp_nx v false) := by decide +kernel
  exact h v hv c
theorem sp_nine_neg {rf : Int32 → Int32 → Int32} (hr : sp_02 rf) {x y : Int32} (c : sp_nine rf x y < 0) : sp_nine rf x y = -1 := by
  rcases sp_nine_in hr x y with h | h | h
  · exact h
  · rw [h] at c; exact absurd c (by decide)
  · rw [h] at c; exact absurd c (by decide)
theorem sp_nine_pos {rf : Int32 → Int32 → Int32} {x y : Int32} (c : ¬ sp_nine rf x y < 0) : ¬ sp_nine rf x y = -1 := fun h => c (by rw [h]; decide)
end SPMW
set_option maxHeartbeats 4000000 in
set_option maxRecDepth 100000 in
/-- step(at, true), w -/
theorem c_X8_step_w_true (l : Launch) (dC : Nat → ClassId) (dI : Nat → Nat → Nat) (cI cZ cJ : ClassId) (m0 : Nat) (m1 : Nat) (m2 : Nat) (m3 : Nat) (m4 : Nat) (m5 : Nat) (m6 : Nat) (th : Int32) (tp : Int32) (ty : Int32) (sf : Int32) (rdg : Int32) (rt : Int32) (dx : Int32) (dy : Int32) (p0 : Int32) (q0 : Int32) (p1 : Int32) (q1 : Int32) (kp : Int32) (w : Nat) (h : Nat) (rwd : Nat) (rht : Nat) (k : Nat) (sk : Nat) (tr : Nat) (co : Nat) (b : Nat) (ma : Int64) (mc : Int64) (mt : Int32) (SW : Nat → Nat) (SR : Nat → Nat) (n : Nat) (hS94 : ∀ j, SW j < 94) (hn0 : n < 8192) (sz : Nat) : Met l yX8_step wsX8_step ({ frames := 0, cells := 0, slots := 0, locals := 0 }) (hw_Pre (dC, dI) vwCl (ty3 cI cZ cJ) [(m0, .inr (7, [.int th, .ref m1, .int (nI w), .int (nI h), .int tp, .int ty, .ref m2, .ref m3, .int sf, .int rdg, .int rt, .int (nI rwd), .int (nI rht), .ref m4, .int dx, .int dy, .int p0, .int q0, .int p1, .int q1, .int kp, .ref m5, .ref m6, .int (nI k), .int (nI sk), .int (nI tr), .int (nI co), .long ma, .long mc, .int mt, .int (nI b)])), (m1, .inl (cI, 188, .inl (fun j => nI (sp_t j)))), (m5, .inl (cI, 16384, .inl (sp_cat SW SR)))] sz [.ref m0, .int (nI n), .int 1]) (va_Qv (fun _ : Unit => True) (hw_at (dC, dI) vwCl (ty3 cI cZ cJ) (fun _ : Unit => [(m0, .inr (7, [.int th, .ref m1, .int (nI w), .int (nI h), .int tp, .int ty, .ref m2, .ref m3, .int sf, .int rdg, .int rt, .int (nI rwd), .int (nI rht), .ref m4, .int dx, .int dy, .int p0, .int q0, .int p1, .int q1, .int kp, .ref m5, .ref m6, .int (nI k), .int (nI sk), .int (nI tr), .int (nI co), .long ma, .long mc, .int mt, .int (nI b)])), (m1, .inl (cI, 188, .inl (fun j => nI (sp_t j)))), (m5, .inl (cI, 16384, .inl (sp_cat (sp_up SW n (sp_nx (SW n) true)) SR)))]) (va_A [(m0, .inr (7, [.int th, .ref m1, .int (nI w), .int (nI h), .int tp, .int ty, .ref m2, .ref m3, .int sf, .int rdg, .int rt, .int (nI rwd), .int (nI rht), .ref m4, .int dx, .int dy, .int p0, .int q0, .int p1, .int q1, .int kp, .ref m5, .ref m6, .int (nI k), .int (nI sk), .int (nI tr), .int (nI co), .long ma, .long mc, .int mt, .int (nI b)])), (m1, .inl (cI, 188, .inl (fun j => nI (sp_t j)))), (m5, .inl (cI, 16384, .inl (sp_cat SW SR)))] sz)) (va_A [(m0, .inr (7, [.int th, .ref m1, .int (nI w), .int (nI h), .int tp, .int ty, .ref m2, .ref m3, .int sf, .int rdg, .int rt, .int (nI rwd), .int (nI rht), .ref m4, .int dx, .int dy, .int p0, .int q0, .int p1, .int q1, .int kp, .ref m5, .ref m6, .int (nI k), .int (nI sk), .int (nI tr), .int (nI co), .long ma, .long mc, .int mt, .int (nI b)])), (m1, .inl (cI, 188, .inl (fun j => nI (sp_t j)))), (m5, .inl (cI, 16384, .inl (sp_cat SW SR)))] sz)) 0 0 (va_A [(m0, .inr (7, [.int th, .ref m1, .int (nI w), .int (nI h), .int tp, .int ty, .ref m2, .ref m3, .int sf, .int rdg, .int rt, .int (nI rwd), .int (nI rht), .ref m4, .int dx, .int dy, .int p0, .int q0, .int p1, .int q1, .int kp, .ref m5, .ref m6, .int (nI k), .int (nI sk), .int (nI tr), .int (nI co), .long ma, .long mc, .int mt, .int (nI b)])), (m1, .inl (cI, 188, .inl (fun j => nI (sp_t j)))), (m5, .inl (cI, 16384, .inl (sp_cat SW SR)))] sz) := by
  refine Met.ofW (cc := cX8_step) (maxL := 5) (ret := none) (by decide) rfl ?_
  intro pg ev s m args below meth cd s₁ B hml hv
  obtain ⟨rfl, hsz, hP, hK, hN, hZ, hD0⟩ := hv
  have hx := B.exec
  have hb := B.bytes
  have hr := B.returns
  have hts := atoms_spec (ws := wsX8_step) B.pre
  have hown : s.vm.findClass RX8 = some m.cls := findClass_of_methodNamed B.named
  have hlocks := B.notSynchronized
  subst hsz
  have hD := hD0.self (sz := s.heap.size)
  generalize hAe : va_A [(m0, .inr (7, [.int th, .ref m1, .int (nI w), .int (nI h), .int tp, .int ty, .ref m2, .ref m3, .int sf, .int rdg, .int rt, .int (nI rwd), .int (nI rht), .ref m4, .int dx, .int dy, .int p0, .int q0, .int p1, .int q1, .int kp, .ref m5, .ref m6, .int (nI k), .int (nI sk), .int (nI tr), .int (nI co), .long ma, .long mc, .int mt, .int (nI b)])), (m1, .inl (cI, 188, .inl (fun j => nI (sp_t j)))), (m5, .inl (cI, 16384, .inl (sp_cat SW SR)))] s.heap.size = A at hD hZ ⊢
  have hA : ∀ q : Nat, s.heap.size ≤ q → A q := fun q h => by rw [← hAe]; exact Or.inr h
  have hS : va_S A s.heap s.heap [] := va_S.rf
  have hk : hw_K (dC, dI) vwCl (ty3 cI cZ cJ) A s := ⟨hK, hN, hZ⟩
  have hiX8 : ∀ w ∈ u_ws RX8 TX8 31, w ∈ wsX8_step := by decide +kernel
  have hl := lv_entry ([.ref m0, .int (nI n), .int 1]) (n := 5) (Nat.le_of_ble_eq_true rfl)
  rw [lg_entry_eq]
  generalize (lg_sl ([.ref m0, .int (nI n), .int 1]) ++ List.replicate (5 - (lg_sl ([.ref m0, .int (nI n), .int 1])).length) Slot.unset).toArray = ls at hl ⊢
  have hl : lv_has ls 5 [(0, .ref m0), (1, .int (nI n)), (2, .int 1)] := hl
  refine lv_aload_n hx hb dX8_step_0 rfl (lv_at hl 0 rfl) ?_
  refine va_get (D := (dC, dI)) (ci := 7) (v := .ref m5) (C := RX8) (T := TX8) (N := 31) hx hb hts hiX8 hown hK hP 0 rfl rfl 21 (by decide) (hts (.fieldLink RX8 42 "RefineRegionsModel" "states" "[I") (by decide +kernel)) (fun _ h9 => h9) rfl dX8_step_1 ?_
  refine lv_iload_n hx hb dX8_step_4 rfl (lv_at hl 1 rfl) ?_
  refine va_iald hx hb hK hP 2 0 rfl rfl (vp_in_nI (by omega) (by decide)) dX8_step_5 ?_
  refine hw_i (y := nI (SW n)) (by rw [nI_clamp (by omega)]; exact sp_cat_w _ _ hn0) ?_
  refine lv_iconst (v := 1) hx hb dX8_step_6 (by decide) ?_
  refine lv_ishr hx hb dX8_step_7 ?_
  refine hw_i (y := nI (SW n / 2)) (pk_shrN (by have := hS94 n; omega) _ 1 (by decide)) ?_
  refine lv_istore_n (lv' := [(3, .int (nI (SW n / 2))), (0, .ref m0), (1, .int (nI n)), (2, .int 1)]) hx hb dX8_step_8 rfl hl (by decide) rfl (fun ls hl => ?_)
  refine lv_aload_n hx hb dX8_step_9 rfl (lv_at hl 1 rfl) ?_
  refine va_get (D := (dC, dI)) (ci := 7) (v := .ref m5) (C := RX8) (T := TX8) (N := 31) hx hb hts hiX8 hown hK hP 0 rfl rfl 21 (by decide) (hts (.fieldLink RX8 42 "RefineRegionsModel" "states" "[I") (by decide +kernel)) (fun _ h9 => h9) rfl dX8_step_10 ?_
  refine lv_iload_n hx hb dX8_step_13 rfl (lv_at hl 2 rfl) ?_
  refine va_iald hx hb hK hP 2 0 rfl rfl (vp_in_nI (by omega) (by decide)) dX8_step_14 ?_
  refine hw_i (y := nI (SW n)) (by rw [nI_clamp (by omega)]; exact sp_cat_w _ _ hn0) ?_
  refine lv_iconst (v := 1) hx hb dX8_step_15 (by decide) ?_
  refine lv_iand hx hb dX8_step_16 ?_
  refine hw_i (y := nI (SW n % 2)) (pk_andN (by have := hS94 n; omega) 1 (by decide)) ?_
  refine lv_istore (lv' := [(4, .int (nI (SW n % 2))), (3, .int (nI (SW n / 2))), (0, .ref m0), (1, .int (nI n)), (2, .int 1)]) hx hb dX8_step_17 hl (by decide) rfl (fun ls hl => ?_)
  refine lv_iload_n hx hb dX8_step_19 rfl (lv_at hl 4 rfl) ?_
  refine lv_if_eq (tgt := 47) hx hb dX8_step_20 (by decide) (fun c9 => absurd c9 (by decide)) (fun _ => ?_)
  refine lv_aload_n hx hb dX8_step_23 rfl (lv_at hl 2 rfl) ?_
  refine va_get (D := (dC, dI)) (ci := 7) (v := .ref m5) (C := RX8) (T := TX8) (N := 31) hx hb hts hiX8 hown hK hP 0 rfl rfl 21 (by decide) (hts (.fieldLink RX8 42 "RefineRegionsModel" "states" "[I") (by decide +kernel)) (fun _ h9 => h9) rfl dX8_step_24 ?_
  refine lv_iload_n hx hb dX8_step_27 rfl (lv_at hl 3 rfl) ?_
  refine lv_aload_n hx hb dX8_step_28 rfl (lv_at hl 2 rfl) ?_
  refine va_get (D := (dC, dI)) (ci := 7) (v := .ref m1) (C := RX8) (T := TX8) (N := 31) hx hb hts hiX8 hown hK hP 0 rfl rfl 1 (by decide) (hts (.fieldLink RX8 7 "RefineRegionsModel" "table" "[I") (by decide +kernel)) (fun _ h9 => h9) rfl dX8_step_29 ?_
  refine lv_iconst (v := 4) hx hb dX8_step_32 (by decide) ?_
  refine lv_iload_n hx hb dX8_step_33 rfl (lv_at hl 1 rfl) ?_
  refine lv_imul hx hb dX8_step_34 ?_
  refine hw_i (y := nI (4 * (SW n / 2))) (by rw [show (4 : Int32) = nI 4 from rfl, pk_mul]) ?_
  refine lv_iconst (v := 1) hx hb dX8_step_35 (by decide) ?_
  refine lv_iadd hx hb dX8_step_36 ?_
  refine hw_i (y := nI (4 * (SW n / 2) + 1)) (by rw [show (1 : Int32) = nI 1 from rfl, nI_add]) ?_
  refine va_iald hx hb hK hP 1 0 rfl rfl (vp_in_nI (by have := hS94 n; omega) (by decide)) dX8_step_37 ?_
  refine hw_i (y := nI (sp_t (4 * (SW n / 2) + 1))) (by rw [nI_clamp (by have := hS94 n; omega)]) ?_
  refine lv_iconst (v := 1) hx hb dX8_step_38 (by decide) ?_
  refine lv_ishl hx hb dX8_step_39 ?_
  refine lv_iload hx hb dX8_step_40 (lv_at hl 0 rfl) ?_
  refine lv_ior hx hb dX8_step_42 ?_
  refine hw_i (y := nI (sp_nx (SW n) true)) (sp_nx_tr (hS94 n)) ?_
  refine va_iast hx hb hK hP hD hS 2 0 rfl rfl (vp_in_nI (by omega) (by decide)) dX8_step_43 (fun H locs hP hD hS => ?_)
  have eA : upd (sp_cat SW SR) (nI n).toNatClampNeg (nI (sp_nx (SW n) true)) = sp_cat (sp_up SW n (sp_nx (SW n) true)) SR := by rw [nI_clamp (by omega)]; exact sp_cat_uw _ _ hn0
  rw [eA] at hP hD
  have hP : va_P (dC, dI) vwCl [(m0, .inr (7, [.int th, .ref m1, .int (nI w), .int (nI h), .int tp, .int ty, .ref m2, .ref m3, .int sf, .int rdg, .int rt, .int (nI rwd), .int (nI rht), .ref m4, .int dx, .int dy, .int p0, .int q0, .int p1, .int q1, .int kp, .ref m5, .ref m6, .int (nI k), .int (nI sk), .int (nI tr), .int (nI co), .long ma, .long mc, .int mt, .int (nI b)])), (m1, .inl (cI, 188, .inl (fun j => nI (sp_t j)))), (m5, .inl (cI, 16384, .inl (sp_cat (sp_up SW n (sp_nx (SW n) true)) SR)))] H := hP
  have hD : va_D A [(m0, .inr (7, [.int th, .ref m1, .int (nI w), .int (nI h), .int tp, .int ty, .ref m2, .ref m3, .int sf, .int rdg, .int rt, .int (nI rwd), .int (nI rht), .ref m4, .int dx, .int dy, .int p0, .int q0, .int p1, .int q1, .int kp, .ref m5, .ref m6, .int (nI k), .int (nI sk), .int (nI tr), .int (nI co), .long ma, .long mc, .int mt, .int (nI b)])), (m1, .inl (cI, 188, .inl (fun j => nI (sp_t j)))), (m5, .inl (cI, 16384, .inl (sp_cat (sp_up SW n (sp_nx (SW n) true)) SR)))] := hD
  refine lv_goto (tgt := 89) hx hb dX8_step_44 (by decide) ?_
  have hP9 := hP
  have hD9 := hD
  exact W.vret hx hb hr (fun t ht hW => ⟨⟨(), rfl, trivial, by rw [ht]; exact hP9, va_K.moved hW.alike hK, hD9⟩, hS.F ht⟩) hS.2.2 dX8_step_89

set_option maxHeartbeats 4000000 in
set_option maxRecDepth 100000 in
/-- step(at, false), w -/
theorem c_X8_step_w_false (l : Launch) (dC : Nat → ClassId) (dI : Nat → Nat → Nat) (cI cZ cJ : ClassId) (m0 : Nat) (m1 : Nat) (m2 : Nat) (m3 : Nat) (m4 : Nat) (m5 : Nat) (m6 : Nat) (th : Int32) (tp : Int32) (ty : Int32) (sf : Int32) (rdg : Int32) (rt : Int32) (dx : Int32) (dy : Int32) (p0 : Int32) (q0 : Int32) (p1 : Int32) (q1 : Int32) (kp : Int32) (w : Nat) (h : Nat) (rwd : Nat) (rht : Nat) (k : Nat) (sk : Nat) (tr : Nat) (co : Nat) (b : Nat) (ma : Int64) (mc : Int64) (mt : Int32) (SW : Nat → Nat) (SR : Nat → Nat) (n : Nat) (hS94 : ∀ j, SW j < 94) (hn0 : n < 8192) (sz : Nat) : Met l yX8_step wsX8_step ({ frames := 0, cells := 0, slots := 0, locals := 0 }) (hw_Pre (dC, dI) vwCl (ty3 cI cZ cJ) [(m0, .inr (7, [.int th, .ref m1, .int (nI w), .int (nI h), .int tp, .int ty, .ref m2, .ref m3, .int sf, .int rdg, .int rt, .int (nI rwd), .int (nI rht), .ref m4, .int dx, .int dy, .int p0, .int q0, .int p1, .int q1, .int kp, .ref m5, .ref m6, .int (nI k), .int (nI sk), .int (nI tr), .int (nI co), .long ma, .long mc, .int mt, .int (nI b)])), (m1, .inl (cI, 188, .inl (fun j => nI (sp_t j)))), (m5, .inl (cI, 16384, .inl (sp_cat SW SR)))] sz [.ref m0, .int (nI n), .int 0]) (va_Qv (fun _ : Unit => True) (hw_at (dC, dI) vwCl (ty3 cI cZ cJ) (fun _ : Unit => [(m0, .inr (7, [.int th, .ref m1, .int (nI w), .int (nI h), .int tp, .int ty, .ref m2, .ref m3, .int sf, .int rdg, .int rt, .int (nI rwd), .int (nI rht), .ref m4, .int dx, .int dy, .int p0, .int q0, .int p1, .int q1, .int kp, .ref m5, .ref m6, .int (nI k), .int (nI sk), .int (nI tr), .int (nI co), .long ma, .long mc, .int mt, .int (nI b)])), (m1, .inl (cI, 188, .inl (fun j => nI (sp_t j)))), (m5, .inl (cI, 16384, .inl (sp_cat (sp_up SW n (sp_nx (SW n) false)) SR)))]) (va_A [(m0, .inr (7, [.int th, .ref m1, .int (nI w), .int (nI h), .int tp, .int ty, .ref m2, .ref m3, .int sf, .int rdg, .int rt, .int (nI rwd), .int (nI rht), .ref m4, .int dx, .int dy, .int p0, .int q0, .int p1, .int q1, .int kp, .ref m5, .ref m6, .int (nI k), .int (nI sk), .int (nI tr), .int (nI co), .long ma, .long mc, .int mt, .int (nI b)])), (m1, .inl (cI, 188, .inl (fun j => nI (sp_t j)))), (m5, .inl (cI, 16384, .inl (sp_cat SW SR)))] sz)) (va_A [(m0, .inr (7, [.int th, .ref m1, .int (nI w), .int (nI h), .int tp, .int ty, .ref m2, .ref m3, .int sf, .int rdg, .int rt, .int (nI rwd), .int (nI rht), .ref m4, .int dx, .int dy, .int p0, .int q0, .int p1, .int q1, .int kp, .ref m5, .ref m6, .int (nI k), .int (nI sk), .int (nI tr), .int (nI co), .long ma, .long mc, .int mt, .int (nI b)])), (m1, .inl (cI, 188, .inl (fun j => nI (sp_t j)))), (m5, .inl (cI, 16384, .inl (sp_cat SW SR)))] sz)) 0 0 (va_A [(m0, .inr (7, [.int th, .ref m1, .int (nI w), .int (nI h), .int tp, .int ty, .ref m2, .ref m3, .int sf, .int rdg, .int rt, .int (nI rwd), .int (nI rht), .ref m4, .int dx, .int dy, .int p0, .int q0, .int p1, .int q1, .int kp, .ref m5, .ref m6, .int (nI k), .int (nI sk), .int (nI tr), .int (nI co), .long ma, .long mc, .int mt, .int (nI b)])), (m1, .inl (cI, 188, .inl (fun j => nI (sp_t j)))), (m5, .inl (cI, 16384, .inl (sp_cat SW SR)))] sz) := by
  refine Met.ofW (cc := cX8_step) (maxL := 5) (ret := none) (by decide) rfl ?_
  intro pg ev s m args below meth cd s₁ B hml hv
  obtain ⟨rfl, hsz, hP, hK, hN, hZ, hD0⟩ := hv
  have hx := B.exec
  have hb := B.bytes
  have hr := B.returns
  have hts := atoms_spec (ws := wsX8_step) B.pre
  have hown : s.vm.findClass RX8 = some m.cls := findClass_of_methodNamed B.named
  have hlocks := B.notSynchronized
  subst hsz
  have hD := hD0.self (sz := s.heap.size)
  generalize hAe : va_A [(m0, .inr (7, [.int th, .ref m1, .int (nI w), .int (nI h), .int tp, .int ty, .ref m2, .ref m3, .int sf, .int rdg, .int rt, .int (nI rwd), .int (nI rht), .ref m4, .int dx, .int dy, .int p0, .int q0, .int p1, .int q1, .int kp, .ref m5, .ref m6, .int (nI k), .int (nI sk), .int (nI tr), .int (nI co), .long ma, .long mc, .int mt, .int (nI b)])), (m1, .inl (cI, 188, .inl (fun j => nI (sp_t j)))), (m5, .inl (cI, 16384, .inl (sp_cat SW SR)))] s.heap.size = A at hD hZ ⊢
  have hA : ∀ q : Nat, s.heap.size ≤ q → A q := fun q h => by rw [← hAe]; exact Or.inr h
  have hS : va_S A s.heap s.heap [] := va_S.rf
  have hk : hw_K (dC, dI) vwCl (ty3 cI cZ cJ) A s := ⟨hK, hN, hZ⟩
  have hiX8 : ∀ w ∈ u_ws RX8 TX8 31, w ∈ wsX8_step := by decide +kernel
  have hl := lv_entry ([.ref m0, .int (nI n), .int 0]) (n := 5) (Nat.le_of_ble_eq_true rfl)
  rw [lg_entry_eq]
  generalize (lg_sl ([.ref m0, .int (nI n), .int 0]) ++ List.replicate (5 - (lg_sl ([.ref m0, .int (nI n), .int 0])).length) Slot.unset).toArray = ls at hl ⊢
  have hl : lv_has ls 5 [(0, .ref m0), (1, .int (nI n)), (2, .int 0)] := hl
  refine lv_aload_n hx hb dX8_step_0 rfl (lv_at hl 0 rfl) ?_
  refine va_get (D := (dC, dI)) (ci := 7) (v := .ref m5) (C := RX8) (T := TX8) (N := 31) hx hb hts hiX8 hown hK hP 0 rfl rfl 21 (by decide) (hts (.fieldLink RX8 42 "RefineRegionsModel" "states" "[I") (by decide +kernel)) (fun _ h9 => h9) rfl dX8_step_1 ?_
  refine lv_iload_n hx hb dX8_step_4 rfl (lv_at hl 1 rfl) ?_
  refine va_iald hx hb hK hP 2 0 rfl rfl (vp_in_nI (by omega) (by decide)) dX8_step_5 ?_
  refine hw_i (y := nI (SW n)) (by rw [nI_clamp (by omega)]; exact sp_cat_w _ _ hn0) ?_
  refine lv_iconst (v := 1) hx hb dX8_step_6 (by decide) ?_
  refine lv_ishr hx hb dX8_step_7 ?_
  refine hw_i (y := nI (SW n / 2)) (pk_shrN (by have := hS94 n; omega) _ 1 (by decide)) ?_
  refine lv_istore_n (lv' := [(3, .int (nI (SW n / 2))), (0, .ref m0), (1, .int (nI n)), (2, .int 0)]) hx hb dX8_step_8 rfl hl (by decide) rfl (fun ls hl => ?_)
  refine lv_aload_n hx hb dX8_step_9 rfl (lv_at hl 1 rfl) ?_
  refine va_get (D := (dC, dI)) (ci := 7) (v := .ref m5) (C := RX8) (T := TX8) (N := 31) hx hb hts hiX8 hown hK hP 0 rfl rfl 21 (by decide) (hts (.fieldLink RX8 42 "RefineRegionsModel" "states" "[I") (by decide +kernel)) (fun _ h9 => h9) rfl dX8_step_10 ?_
  refine lv_iload_n hx hb dX8_step_13 rfl (lv_at hl 2 rfl) ?_
  refine va_iald hx hb hK hP 2 0 rfl rfl (vp_in_nI (by omega) (by decide)) dX8_step_14 ?_
  refine hw_i (y := nI (SW n)) (by rw [nI_clamp (by omega)]; exact sp_cat_w _ _ hn0) ?_
  refine lv_iconst (v := 1) hx hb dX8_step_15 (by decide) ?_
  refine lv_iand hx hb dX8_step_16 ?_
  refine hw_i (y := nI (SW n % 2)) (pk_andN (by have := hS94 n; omega) 1 (by decide)) ?_
  refine lv_istore (lv' := [(4, .int (nI (SW n % 2))), (3, .int (nI (SW n / 2))), (0, .ref m0), (1, .int (nI n)), (2, .int 0)]) hx hb dX8_step_17 hl (by decide) rfl (fun ls hl => ?_)
  refine lv_iload_n hx hb dX8_step_19 rfl (lv_at hl 4 rfl) ?_
  refine lv_if_eq (tgt := 47) hx hb dX8_step_20 (by decide) (fun _ => ?_) (fun c9 => absurd (by decide) c9)
  refine lv_aload_n hx hb dX8_step_47 rfl (lv_at hl 2 rfl) ?_
  refine va_get (D := (dC, dI)) (ci := 7) (v := .ref m5) (C := RX8) (T := TX8) (N := 31) hx hb hts hiX8 hown hK hP 0 rfl rfl 21 (by decide) (hts (.fieldLink RX8 42 "RefineRegionsModel" "states" "[I") (by decide +kernel)) (fun _ h9 => h9) rfl dX8_step_48 ?_
  refine lv_iload_n hx hb dX8_step_51 rfl (lv_at hl 3 rfl) ?_
  refine lv_aload_n hx hb dX8_step_52 rfl (lv_at hl 2 rfl) ?_
  refine va_get (D := (dC, dI)) (ci := 7) (v := .ref m1) (C := RX8) (T := TX8) (N := 31) hx hb hts hiX8 hown hK hP 0 rfl rfl 1 (by decide) (hts (.fieldLink RX8 7 "RefineRegionsModel" "table" "[I") (by decide +kernel)) (fun _ h9 => h9) rfl dX8_step_53 ?_
  refine lv_iconst (v := 4) hx hb dX8_step_56 (by decide) ?_
  refine lv_iload_n hx hb dX8_step_57 rfl (lv_at hl 1 rfl) ?_
  refine lv_imul hx hb dX8_step_58 ?_
  refine hw_i (y := nI (4 * (SW n / 2))) (by rw [show (4 : Int32) = nI 4 from rfl, pk_mul]) ?_
  refine lv_iconst (v := 2) hx hb dX8_step_59 (by decide) ?_
  refine lv_iadd hx hb dX8_step_60 ?_
  refine hw_i (y := nI (4 * (SW n / 2) + 2)) (by rw [show (2 : Int32) = nI 2 from rfl, nI_add]) ?_
  refine va_iald hx hb hK hP 1 0 rfl rfl (vp_in_nI (by have := hS94 n; omega) (by decide)) dX8_step_61 ?_
  refine hw_i (y := nI (sp_t (4 * (SW n / 2) + 2))) (by rw [nI_clamp (by have := hS94 n; omega)]) ?_
  refine lv_iconst (v := 1) hx hb dX8_step_62 (by decide) ?_
  refine lv_ishl hx hb dX8_step_63 ?_
  refine lv_aload_n hx hb dX8_step_64 rfl (lv_at hl 2 rfl) ?_
  refine va_get (D := (dC, dI)) (ci := 7) (v := .ref m1) (C := RX8) (T := TX8) (N := 31) hx hb hts hiX8 hown hK hP 0 rfl rfl 1 (by decide) (hts (.fieldLink RX8 7 "RefineRegionsModel" "table" "[I") (by decide +kernel)) (fun _ h9 => h9) rfl dX8_step_65 ?_
  refine lv_iconst (v := 4) hx hb dX8_step_68 (by decide) ?_
  refine lv_iload_n hx hb dX8_step_69 rfl (lv_at hl 1 rfl) ?_
  refine lv_imul hx hb dX8_step_70 ?_
  refine hw_i (y := nI (4 * (SW n / 2))) (by rw [show (4 : Int32) = nI 4 from rfl, pk_mul]) ?_
  refine lv_iconst (v := 3) hx hb dX8_step_71 (by decide) ?_
  refine lv_iadd hx hb dX8_step_72 ?_
  refine hw_i (y := nI (4 * (SW n / 2) + 3)) (by rw [show (3 : Int32) = nI 3 from rfl, nI_add]) ?_
  refine va_iald hx hb hK hP 1 0 rfl rfl (vp_in_nI (by have := hS94 n; omega) (by decide)) dX8_step_73 ?_
  refine hw_i (y := nI (sp_t (4 * (SW n / 2) + 3))) (by rw [nI_clamp (by have := hS94 n; omega)]) ?_
  refine lv_iconst (v := 1) hx hb dX8_step_74 (by decide) ?_
  refine lv_icmp_ne (tgt := 85) hx hb dX8_step_75 (by decide) (fun c_75 => ?_) (fun c_75 => ?_)
  · refine lv_iload hx hb dX8_step_85 (lv_at hl 0 rfl) ?_
    refine lv_ior hx hb dX8_step_87 ?_
    refine hw_i (y := nI (sp_nx (SW n) false)) (sp_nx_f2 (hS94 n) c_75) ?_
    refine va_iast hx hb hK hP hD hS 2 0 rfl rfl (vp_in_nI (by omega) (by decide)) dX8_step_88 (fun H locs hP hD hS => ?_)
    have eA : upd (sp_cat SW SR) (nI n).toNatClampNeg (nI (sp_nx (SW n) false)) = sp_cat (sp_up SW n (sp_nx (SW n) false)) SR := by rw [nI_clamp (by omega)]; exact sp_cat_uw _ _ hn0
    rw [eA] at hP hD
    have hP : va_P (dC, dI) vwCl [(m0, .inr (7, [.int th, .ref m1, .int (nI w), .int (nI h), .int tp, .int ty, .ref m2, .ref m3, .int sf, .int rdg, .int rt, .int (nI rwd), .int (nI rht), .ref m4, .int dx, .int dy, .int p0, .int q0, .int p1, .int q1, .int kp, .ref m5, .ref m6, .int (nI k), .int (nI sk), .int (nI tr), .int (nI co), .long ma, .long mc, .int mt, .int (nI b)])), (m1, .inl (cI, 188, .inl (fun j => nI (sp_t j)))), (m5, .inl (cI, 16384, .inl (sp_cat (sp_up SW n (sp_nx (SW n) false)) SR)))] H := hP
    have hD : va_D A [(m0, .inr (7, [.int th, .ref m1, .int (nI w), .int (nI h), .int tp, .int ty, .ref m2, .ref m3, .int sf, .int rdg, .int rt, .int (nI rwd), .int (nI rht), .ref m4, .int dx, .int dy, .int p0, .int q0, .int p1, .int q1, .int kp, .ref m5, .ref m6, .int (nI k), .int (nI sk), .int (nI tr), .int (nI co), .long ma, .long mc, .int mt, .int (nI b)])), (m1, .inl (cI, 188, .inl (fun j => nI (sp_t j)))), (m5, .inl (cI, 16384, .inl (sp_cat (sp_up SW n (sp_nx (SW n) false)) SR)))] := hD
    have hP9 := hP
    have hD9 := hD
    exact W.vret hx hb hr (fun t ht hW => ⟨⟨(), rfl, trivial, by rw [ht]; exact hP9, va_K.moved hW.alike hK, hD9⟩, hS.F ht⟩) hS.2.2 dX8_step_89
  · refine lv_iconst (v := 1) hx hb dX8_step_78 (by decide) ?_
    refine lv_iload hx hb dX8_step_79 (lv_at hl 0 rfl) ?_
    refine lv_isub hx hb dX8_step_81 ?_
    refine lv_goto (tgt := 87) hx hb dX8_step_82 (by decide) ?_
    refine lv_ior hx hb dX8_step_87 ?_
    refine hw_i (y := nI (sp_nx (SW n) false)) (sp_nx_f1 (hS94 n) c_75) ?_
    refine va_iast hx hb hK hP hD hS 2 0 rfl rfl (vp_in_nI (by omega) (by decide)) dX8_step_88 (fun H locs hP hD hS => ?_)
    have eA : upd (sp_cat SW SR) (nI n).toNatClampNeg (nI (sp_nx (SW n) false)) = sp_cat (sp_up SW n (sp_nx (SW n) false)) SR := by rw [nI_clamp (by omega)]; exact sp_cat_uw _ _ hn0
    rw [eA] at hP hD
    have hP : va_P (dC, dI) vwCl [(m0, .inr (7, [.int th, .ref m1, .int (nI w), .int (nI h), .int tp, .int ty, .ref m2, .ref m3, .int sf, .int rdg, .int rt, .int (nI rwd), .int (nI rht), .ref m4, .int dx, .int dy, .int p0, .int q0, .int p1, .int q1, .int kp, .ref m5, .ref m6, .int (nI k), .int (nI sk), .int (nI tr), .int (nI co), .long ma, .long mc, .int mt, .int (nI b)])), (m1, .inl (cI, 188, .inl (fun j => nI (sp_t j)))), (m5, .inl (cI, 16384, .inl (sp_cat (sp_up SW n (sp_nx (SW n) false)) SR)))] H := hP
    have hD : va_D A [(m0, .inr (7, [.int th, .ref m1, .int (nI w), .int (nI h), .int tp, .int ty, .ref m2, .ref m3, .int sf, .int rdg, .int rt, .int (nI rwd), .int (nI rht), .ref m4, .int dx, .int dy, .int p0, .int q0, .int p1, .int q1, .int kp, .ref m5, .ref m6, .int (nI k), .int (nI sk), .int (nI tr), .int (nI co), .long ma, .long mc, .int mt, .int (nI b)])), (m1, .inl (cI, 188, .inl (fun j => nI (sp_t j)))), (m5, .inl (cI, 16384, .inl (sp_cat (sp_up SW n (sp_nx (SW n) false)) SR)))] := hD
    have hP9 := hP
    have hD9 := hD
    exact W.vret hx hb hr (fun t ht hW => ⟨⟨(), rfl, trivial, by rw [ht]; exact hP9, va_K.moved hW.alike hK, hD9⟩, hS.F ht⟩) hS.2.2 dX8_step_89

set_option maxHeartbeats 4000000 in
set_option maxRecDepth 100000 in
/-- step(at, true), r -/
theorem c_X8_step_r_true (l : Launch) (dC : Nat → ClassId) (dI : Nat → Nat → Nat) (cI cZ cJ : ClassId) (m0 : Nat) (m1 : Nat) (m2 : Nat) (m3 : Nat) (m4 : Nat) (m5 : Nat) (m6 : Nat) (th : Int32) (tp : Int32) (ty : Int32) (sf : Int32) (rdg : Int32) (rt : Int32) (dx : Int32) (dy : Int32) (p0 : Int32) (q0 : Int32) (p1 : Int32) (q1 : Int32) (kp : Int32) (w : Nat) (h : Nat) (rwd : Nat) (rht : Nat) (k : Nat) (sk : Nat) (tr : Nat) (co : Nat) (b : Nat) (ma : Int64) (mc : Int64) (mt : Int32) (SW : Nat → Nat) (SR : Nat → Nat) (n : Nat) (hS94 : ∀ j, SR j < 94) (hn0 : n < 8192) (sz : Nat) : Met l yX8_step wsX8_step ({ frames := 0, cells := 0, slots := 0, locals := 0 }) (hw_Pre (dC, dI) vwCl (ty3 cI cZ cJ) [(m0, .inr (7, [.int th, .ref m1, .int (nI w), .int (nI h), .int tp, .int ty, .ref m2, .ref m3, .int sf, .int rdg, .int rt, .int (nI rwd), .int (nI rht), .ref m4, .int dx, .int dy, .int p0, .int q0, .int p1, .int q1, .int kp, .ref m5, .ref m6, .int (nI k), .int (nI sk), .int (nI tr), .int (nI co), .long ma, .long mc, .int mt, .int (nI b)])), (m1, .inl (cI, 188, .inl (fun j => nI (sp_t j)))), (m5, .inl (cI, 16384, .inl (sp_cat SW SR)))] sz [.ref m0, .int (nI (8192 + n)), .int 1]) (va_Qv (fun _ : Unit => True) (hw_at (dC, dI) vwCl (ty3 cI cZ cJ) (fun _ : Unit => [(m0, .inr (7, [.int th, .ref m1, .int (nI w), .int (nI h), .int tp, .int ty, .ref m2, .ref m3, .int sf, .int rdg, .int rt, .int (nI rwd), .int (nI rht), .ref m4, .int dx, .int dy, .int p0, .int q0, .int p1, .int q1, .int kp, .ref m5, .ref m6, .int (nI k), .int (nI sk), .int (nI tr), .int (nI co), .long ma, .long mc, .int mt, .int (nI b)])), (m1, .inl (cI, 188, .inl (fun j => nI (sp_t j)))), (m5, .inl (cI, 16384, .inl (sp_cat SW (sp_up SR n (sp_nx (SR n) true)))))]) (va_A [(m0, .inr (7, [.int th, .ref m1, .int (nI w), .int (nI h), .int tp, .int ty, .ref m2, .ref m3, .int sf, .int rdg, .int rt, .int (nI rwd), .int (nI rht), .ref m4, .int dx, .int dy, .int p0, .int q0, .int p1, .int q1, .int kp, .ref m5, .ref m6, .int (nI k), .int (nI sk), .int (nI tr), .int (nI co), .long ma, .long mc, .int mt, .int (nI b)])), (m1, .inl (cI, 188, .inl (fun j => nI (sp_t j)))), (m5, .inl (cI, 16384, .inl (sp_cat SW SR)))] sz)) (va_A [(m0, .inr (7, [.int th, .ref m1, .int (nI w), .int (nI h), .int tp, .int ty, .ref m2, .ref m3, .int sf, .int rdg, .int rt, .int (nI rwd), .int (nI rht), .ref m4, .int dx, .int dy, .int p0, .int q0, .int p1, .int q1, .int kp, .ref m5, .ref m6, .int (nI k), .int (nI sk), .int (nI tr), .int (nI co), .long ma, .long mc, .int mt, .int (nI b)])), (m1, .inl (cI, 188, .inl (fun j => nI (sp_t j)))), (m5, .inl (cI, 16384, .inl (sp_cat SW SR)))] sz)) 0 0 (va_A [(m0, .inr (7, [.int th, .ref m1, .int (nI w), .int (nI h), .int tp, .int ty, .ref m2, .ref m3, .int sf, .int rdg, .int rt, .int (nI rwd), .int (nI rht), .ref m4, .int dx, .int dy, .int p0, .int q0, .int p1, .int q1, .int kp, .ref m5, .ref m6, .int (nI k), .int (nI sk), .int (nI tr), .int (nI co), .long ma, .long mc, .int mt, .int (nI b)])), (m1, .inl (cI, 188, .inl (fun j => nI (sp_t j)))), (m5, .inl (cI, 16384, .inl (sp_cat SW SR)))] sz) := by
  refine Met.ofW (cc := cX8_step) (maxL := 5) (ret := none) (by decide) rfl ?_
  intro pg ev s m args below meth cd s₁ B hml hv
  obtain ⟨rfl, hsz, hP, hK, hN, hZ, hD0⟩ := hv
  have hx := B.exec
  have hb := B.bytes
  have hr := B.returns
  have hts := atoms_spec (ws := wsX8_step) B.pre
  have hown : s.vm.findClass RX8 = some m.cls := findClass_of_methodNamed B.named
  have hlocks := B.notSynchronized
  subst hsz
  have hD := hD0.self (sz := s.heap.size)
  generalize hAe : va_A [(m0, .inr (7, [.int th, .ref m1, .int (nI w), .int (nI h), .int tp, .int ty, .ref m2, .ref m3, .int sf, .int rdg, .int rt, .int (nI rwd), .int (nI rht), .ref m4, .int dx, .int dy, .int p0, .int q0, .int p1, .int q1, .int kp, .ref m5, .ref m6, .int (nI k), .int (nI sk), .int (nI tr), .int (nI co), .long ma, .long mc, .int mt, .int (nI b)])), (m1, .inl (cI, 188, .inl (fun j => nI (sp_t j)))), (m5, .inl (cI, 16384, .inl (sp_cat SW SR)))] s.heap.size = A at hD hZ ⊢
  have hA : ∀ q : Nat, s.heap.size ≤ q → A q := fun q h => by rw [← hAe]; exact Or.inr h
  have hS : va_S A s.heap s.heap [] := va_S.rf
  have hk : hw_K (dC, dI) vwCl (ty3 cI cZ cJ) A s := ⟨hK, hN, hZ⟩
  have hiX8 : ∀ w ∈ u_ws RX8 TX8 31, w ∈ wsX8_step := by decide +kernel
  have hl := lv_entry ([.ref m0, .int (nI (8192 + n)), .int 1]) (n := 5) (Nat.le_of_ble_eq_true rfl)
  rw [lg_entry_eq]
  generalize (lg_sl ([.ref m0, .int (nI (8192 + n)), .int 1]) ++ List.replicate (5 - (lg_sl ([.ref m0, .int (nI (8192 + n)), .int 1])).length) Slot.unset).toArray = ls at hl ⊢
  have hl : lv_has ls 5 [(0, .ref m0), (1, .int (nI (8192 + n))), (2, .int 1)] := hl
  refine lv_aload_n hx hb dX8_step_0 rfl (lv_at hl 0 rfl) ?_
  refine va_get (D := (dC, dI)) (ci := 7) (v := .ref m5) (C := RX8) (T := TX8) (N := 31) hx hb hts hiX8 hown hK hP 0 rfl rfl 21 (by decide) (hts (.fieldLink RX8 42 "RefineRegionsModel" "states" "[I") (by decide +kernel)) (fun _ h9 => h9) rfl dX8_step_1 ?_
  refine lv_iload_n hx hb dX8_step_4 rfl (lv_at hl 1 rfl) ?_
  refine va_iald hx hb hK hP 2 0 rfl rfl (vp_in_nI (by omega) (by decide)) dX8_step_5 ?_
  refine hw_i (y := nI (SR n)) (by rw [nI_clamp (by omega)]; exact sp_cat_r _ _ _) ?_
  refine lv_iconst (v := 1) hx hb dX8_step_6 (by decide) ?_
  refine lv_ishr hx hb dX8_step_7 ?_
  refine hw_i (y := nI (SR n / 2)) (pk_shrN (by have := hS94 n; omega) _ 1 (by decide)) ?_
  refine lv_istore_n (lv' := [(3, .int (nI (SR n / 2))), (0, .ref m0), (1, .int (nI (8192 + n))), (2, .int 1)]) hx hb dX8_step_8 rfl hl (by decide) rfl (fun ls hl => ?_)
  refine lv_aload_n hx hb dX8_step_9 rfl (lv_at hl 1 rfl) ?_
  refine va_get (D := (dC, dI)) (ci := 7) (v := .ref m5) (C := RX8) (T := TX8) (N := 31) hx hb hts hiX8 hown hK hP 0 rfl rfl 21 (by decide) (hts (.fieldLink RX8 42 "RefineRegionsModel" "states" "[I") (by decide +kernel)) (fun _ h9 => h9) rfl dX8_step_10 ?_
  refine lv_iload_n hx hb dX8_step_13 rfl (lv_at hl 2 rfl) ?_
  refine va_iald hx hb hK hP 2 0 rfl rfl (vp_in_nI (by omega) (by decide)) dX8_step_14 ?_
  refine hw_i (y := nI (SR n)) (by rw [nI_clamp (by omega)]; exact sp_cat_r _ _ _) ?_
  refine lv_iconst (v := 1) hx hb dX8_step_15 (by decide) ?_
  refine lv_iand hx hb dX8_step_16 ?_
  refine hw_i (y := nI (SR n % 2)) (pk_andN (by have := hS94 n; omega) 1 (by decide)) ?_
  refine lv_istore (lv' := [(4, .int (nI (SR n % 2))), (3, .int (nI (SR n / 2))), (0, .ref m0), (1, .int (nI (8192 + n))), (2, .int 1)]) hx hb dX8_step_17 hl (by decide) rfl (fun ls hl => ?_)
  refine lv_iload_n hx hb dX8_step_19 rfl (lv_at hl 4 rfl) ?_
  refine lv_if_eq (tgt := 47) hx hb dX8_step_20 (by decide) (fun c9 => absurd c9 (by decide)) (fun _ => ?_)
  refine lv_aload_n hx hb dX8_step_23 rfl (lv_at hl 2 rfl) ?_
  refine va_get (D := (dC, dI)) (ci := 7) (v := .ref m5) (C := RX8) (T := TX8) (N := 31) hx hb hts hiX8 hown hK hP 0 rfl rfl 21 (by decide) (hts (.fieldLink RX8 42 "RefineRegionsModel" "states" "[I") (by decide +kernel)) (fun _ h9 => h9) rfl dX8_step_24 ?_
  refine lv_iload_n hx hb dX8_step_27 rfl (lv_at hl 3 rfl) ?_
  refine lv_aload_n hx hb dX8_step_28 rfl (lv_at hl 2 rfl) ?_
  refine va_get (D := (dC, dI)) (ci := 7) (v := .ref m1) (C := RX8) (T := TX8) (N := 31) hx hb hts hiX8 hown hK hP 0 rfl rfl 1 (by decide) (hts (.fieldLink RX8 7 "RefineRegionsModel" "table" "[I") (by decide +kernel)) (fun _ h9 => h9) rfl dX8_step_29 ?_
  refine lv_iconst (v := 4) hx hb dX8_step_32 (by decide) ?_
  refine lv_iload_n hx hb dX8_step_33 rfl (lv_at hl 1 rfl) ?_
  refine lv_imul hx hb dX8_step_34 ?_
  refine hw_i (y := nI (4 * (SR n / 2))) (by rw [show (4 : Int32) = nI 4 from rfl, pk_mul]) ?_
  refine lv_iconst (v := 1) hx hb dX8_step_35 (by decide) ?_
  refine lv_iadd hx hb dX8_step_36 ?_
  refine hw_i (y := nI (4 * (SR n / 2) + 1)) (by rw [show (1 : Int32) = nI 1 from rfl, nI_add]) ?_
  refine va_iald hx hb hK hP 1 0 rfl rfl (vp_in_nI (by have := hS94 n; omega) (by decide)) dX8_step_37 ?_
  refine hw_i (y := nI (sp_t (4 * (SR n / 2) + 1))) (by rw [nI_clamp (by have := hS94 n; omega)]) ?_
  refine lv_iconst (v := 1) hx hb dX8_step_38 (by decide) ?_
  refine lv_ishl hx hb dX8_step_39 ?_
  refine lv_iload hx hb dX8_step_40 (lv_at hl 0 rfl) ?_
  refine lv_ior hx hb dX8_step_42 ?_
  refine hw_i (y := nI (sp_nx (SR n) true)) (sp_nx_tr (hS94 n)) ?_
  refine va_iast hx hb hK hP hD hS 2 0 rfl rfl (vp_in_nI (by omega) (by decide)) dX8_step_43 (fun H locs hP hD hS => ?_)
  have eA : upd (sp_cat SW SR) (nI (8192 + n)).toNatClampNeg (nI (sp_nx (SR n) true)) = sp_cat SW (sp_up SR n (sp_nx (SR n) true)) := by rw [nI_clamp (by omega)]; exact sp_cat_ur _ _
  rw [eA] at hP hD
  have hP : va_P (dC, dI) vwCl [(m0, .inr (7, [.int th, .ref m1, .int (nI w), .int (nI h), .int tp, .int ty, .ref m2, .ref m3, .int sf, .int rdg, .int rt, .int (nI rwd), .int (nI rht), .ref m4, .int dx, .int dy, .int p0, .int q0, .int p1, .int q1, .int kp, .ref m5, .ref m6, .int (nI k), .int (nI sk), .int (nI tr), .int (nI co), .long ma, .long mc, .int mt, .int (nI b)])), (m1, .inl (cI, 188, .inl (fun j => nI (sp_t j)))), (m5, .inl (cI, 16384, .inl (sp_cat SW (sp_up SR n (sp_nx (SR n) true)))))] H := hP
  have hD : va_D A [(m0, .inr (7, [.int th, .ref m1, .int (nI w), .int (nI h), .int tp, .int ty, .ref m2, .ref m3, .int sf, .int rdg, .int rt, .int (nI rwd), .int (nI rht), .ref m4, .int dx, .int dy, .int p0, .int q0, .int p1, .int q1, .int kp, .ref m5, .ref m6, .int (nI k), .int (nI sk), .int (nI tr), .int (nI co), .long ma, .long mc, .int mt, .int (nI b)])), (m1, .inl (cI, 188, .inl (fun j => nI (sp_t j)))), (m5, .inl (cI, 16384, .inl (sp_cat SW (sp_up SR n (sp_nx (SR n) true)))))] := hD
  refine lv_goto (tgt := 89) hx hb dX8_step_44 (by decide) ?_
  have hP9 := hP
  have hD9 := hD
  exact W.vret hx hb hr (fun t ht hW => ⟨⟨(), rfl, trivial, by rw [ht]; exact hP9, va_K.moved hW.alike hK, hD9⟩, hS.F ht⟩) hS.2.2 dX8_step_89

set_option maxHeartbeats 4000000 in
set_option maxRecDepth 100000 in
/-- step(at, false), r -/
theorem c_X8_step_r_false (l : Launch) (dC : Nat → ClassId) (dI : Nat → Nat → Nat) (cI cZ cJ : ClassId) (m0 : Nat) (m1 : Nat) (m2 : Nat) (m3 : Nat) (m4 : Nat) (m5 : Nat) (m6 : Nat) (th : Int32) (tp : Int32) (ty : Int32) (sf : Int32) (rdg : Int32) (rt : Int32) (dx : Int32) (dy : Int32) (p0 : Int32) (q0 : Int32) (p1 : Int32) (q1 : Int32) (kp : Int32) (w : Nat) (h : Nat) (rwd : Nat) (rht : Nat) (k : Nat) (sk : Nat) (tr : Nat) (co : Nat) (b : Nat) (ma : Int64) (mc : Int64) (mt : Int32) (SW : Nat → Nat) (SR : Nat → Nat) (n : Nat) (hS94 : ∀ j, SR j < 94) (hn0 : n < 8192) (sz : Nat) : Met l yX8_step wsX8_step ({ frames := 0, cells := 0, slots := 0, locals := 0 }) (hw_Pre (dC, dI) vwCl (ty3 cI cZ cJ) [(m0, .inr (7, [.int th, .ref m1, .int (nI w), .int (nI h), .int tp, .int ty, .ref m2, .ref m3, .int sf, .int rdg, .int rt, .int (nI rwd), .int (nI rht), .ref m4, .int dx, .int dy, .int p0, .int q0, .int p1, .int q1, .int kp, .ref m5, .ref m6, .int (nI k), .int (nI sk), .int (nI tr), .int (nI co), .long ma, .long mc, .int mt, .int (nI b)])), (m1, .inl (cI, 188, .inl (fun j => nI (sp_t j)))), (m5, .inl (cI, 16384, .inl (sp_cat SW SR)))] sz [.ref m0, .int (nI (8192 + n)), .int 0]) (va_Qv (fun _ : Unit => True) (hw_at (dC, dI) vwCl (ty3 cI cZ cJ) (fun _ : Unit => [(m0, .inr (7, [.int th, .ref m1, .int (nI w), .int (nI h), .int tp, .int ty, .ref m2, .ref m3, .int sf, .int rdg, .int rt, .int (nI rwd), .int (nI rht), .ref m4, .int dx, .int dy, .int p0, .int q0, .int p1, .int q1, .int kp, .ref m5, .ref m6, .int (nI k), .int (nI sk), .int (nI tr), .int (nI co), .long ma, .long mc, .int mt, .int (nI b)])), (m1, .inl (cI, 188, .inl (fun j => nI (sp_t j)))), (m5, .inl (cI, 16384, .inl (sp_cat SW (sp_up SR n (sp_nx (SR n) false)))))]) (va_A [(m0, .inr (7, [.int th, .ref m1, .int (nI w), .int (nI h), .int tp, .int ty, .ref m2, .ref m3, .int sf, .int rdg, .int rt, .int (nI rwd), .int (nI rht), .ref m4, .int dx, .int dy, .int p0, .int q0, .int p1, .int q1, .int kp, .ref m5, .ref m6, .int (nI k), .int (nI sk), .int (nI tr), .int (nI co), .long ma, .long mc, .int mt, .int (nI b)])), (m1, .inl (cI, 188, .inl (fun j => nI (sp_t j)))), (m5, .inl (cI, 16384, .inl (sp_cat SW SR)))] sz)) (va_A [(m0, .inr (7, [.int th, .ref m1, .int (nI w), .int (nI h), .int tp, .int ty, .ref m2, .ref m3, .int sf, .int rdg, .int rt, .int (nI rwd), .int (nI rht), .ref m4, .int dx, .int dy, .int p0, .int q0, .int p1, .int q1, .int kp, .ref m5, .ref m6, .int (nI k), .int (nI sk), .int (nI tr), .int (nI co), .long ma, .long mc, .int mt, .int (nI b)])), (m1, .inl (cI, 188, .inl (fun j => nI (sp_t j)))), (m5, .inl (cI, 16384, .inl (sp_cat SW SR)))] sz)) 0 0 (va_A [(m0, .inr (7, [.int th, .ref m1, .int (nI w), .int (nI h), .int tp, .int ty, .ref m2, .ref m3, .int sf, .int rdg, .int rt, .int (nI rwd), .int (nI rht), .ref m4, .int dx, .int dy, .int p0, .int q0, .int p1, .int q1, .int kp, .ref m5, .ref m6, .int (nI k), .int (nI sk), .int (nI tr), .int (nI co), .long ma, .long mc, .int mt, .int (nI b)])), (m1, .inl (cI, 188, .inl (fun j => nI (sp_t j)))), (m5, .inl (cI, 16384, .inl (sp_cat SW SR)))] sz) := by
  refine Met.ofW (cc := cX8_step) (maxL := 5) (ret := none) (by decide) rfl ?_
  intro pg ev s m args below meth cd s₁ B hml hv
  obtain ⟨rfl, hsz, hP, hK, hN, hZ, hD0⟩ := hv
  have hx := B.exec
  have hb := B.bytes
  have hr := B.returns
  have hts := atoms_spec (ws := wsX8_step) B.pre
  have hown : s.vm.findClass RX8 = some m.cls := findClass_of_methodNamed B.named
  have hlocks := B.notSynchronized
  subst hsz
  have hD := hD0.self (sz := s.heap.size)
  generalize hAe : va_A [(m0, .inr (7, [.int th, .ref m1, .int (nI w), .int (nI h), .int tp, .int ty, .ref m2, .ref m3, .int sf, .int rdg, .int rt, .int (nI rwd), .int (nI rht), .ref m4, .int dx, .int dy, .int p0, .int q0, .int p1, .int q1, .int kp, .ref m5, .ref m6, .int (nI k), .int (nI sk), .int (nI tr), .int (nI co), .long ma, .long mc, .int mt, .int (nI b)])), (m1, .inl (cI, 188, .inl (fun j => nI (sp_t j)))), (m5, .inl (cI, 16384, .inl (sp_cat SW SR)))] s.heap.size = A at hD hZ ⊢
  have hA : ∀ q : Nat, s.heap.size ≤ q → A q := fun q h => by rw [← hAe]; exact Or.inr h
  have hS : va_S A s.heap s.heap [] := va_S.rf
  have hk : hw_K (dC, dI) vwCl (ty3 cI cZ cJ) A s := ⟨hK, hN, hZ⟩
  have hiX8 : ∀ w ∈ u_ws RX8 TX8 31, w ∈ wsX8_step := by decide +kernel
  have hl := lv_entry ([.ref m0, .int (nI (8192 + n)), .int 0]) (n := 5) (Nat.le_of_ble_eq_true rfl)
  rw [lg_entry_eq]
  generalize (lg_sl ([.ref m0, .int (nI (8192 + n)), .int 0]) ++ List.replicate (5 - (lg_sl ([.ref m0, .int (nI (8192 + n)), .int 0])).length) Slot.unset).toArray = ls at hl ⊢
  have hl : lv_has ls 5 [(0, .ref m0), (1, .int (nI (8192 + n))), (2, .int 0)] := hl
  refine lv_aload_n hx hb dX8_step_0 rfl (lv_at hl 0 rfl) ?_
  refine va_get (D := (dC, dI)) (ci := 7) (v := .ref m5) (C := RX8) (T := TX8) (N := 31) hx hb hts hiX8 hown hK hP 0 rfl rfl 21 (by decide) (hts (.fieldLink RX8 42 "RefineRegionsModel" "states" "[I") (by decide +kernel)) (fun _ h9 => h9) rfl dX8_step_1 ?_
  refine lv_iload_n hx hb dX8_step_4 rfl (lv_at hl 1 rfl) ?_
  refine va_iald hx hb hK hP 2 0 rfl rfl (vp_in_nI (by omega) (by decide)) dX8_step_5 ?_
  refine hw_i (y := nI (SR n)) (by rw [nI_clamp (by omega)]; exact sp_cat_r _ _ _) ?_
  refine lv_iconst (v := 1) hx hb dX8_step_6 (by decide) ?_
  refine lv_ishr hx hb dX8_step_7 ?_
  refine hw_i (y := nI (SR n / 2)) (pk_shrN (by have := hS94 n; omega) _ 1 (by decide)) ?_
  refine lv_istore_n (lv' := [(3, .int (nI (SR n / 2))), (0, .ref m0), (1, .int (nI (8192 + n))), (2, .int 0)]) hx hb dX8_step_8 rfl hl (by decide) rfl (fun ls hl => ?_)
  refine lv_aload_n hx hb dX8_step_9 rfl (lv_at hl 1 rfl) ?_
  refine va_get (D := (dC, dI)) (ci := 7) (v := .ref m5) (C := RX8) (T := TX8) (N := 31) hx hb hts hiX8 hown hK hP 0 rfl rfl 21 (by decide) (hts (.fieldLink RX8 42 "RefineRegionsModel" "states" "[I") (by decide +kernel)) (fun _ h9 => h9) rfl dX8_step_10 ?_
  refine lv_iload_n hx hb dX8_step_13 rfl (lv_at hl 2 rfl) ?_
  refine va_iald hx hb hK hP 2 0 rfl rfl (vp_in_nI (by omega) (by decide)) dX8_step_14 ?_
  refine hw_i (y := nI (SR n)) (by rw [nI_clamp (by omega)]; exact sp_cat_r _ _ _) ?_
  refine lv_iconst (v := 1) hx hb dX8_step_15 (by decide) ?_
  refine lv_iand hx hb dX8_step_16 ?_
  refine hw_i (y := nI (SR n % 2)) (pk_andN (by have := hS94 n; omega) 1 (by decide)) ?_
  refine lv_istore (lv' := [(4, .int (nI (SR n % 2))), (3, .int (nI (SR n / 2))), (0, .ref m0), (1, .int (nI (8192 + n))), (2, .int 0)]) hx hb dX8_step_17 hl (by decide) rfl (fun ls hl => ?_)
  refine lv_iload_n hx hb dX8_step_19 rfl (lv_at hl 4 rfl) ?_
  refine lv_if_eq (tgt := 47) hx hb dX8_step_20 (by decide) (fun _ => ?_) (fun c9 => absurd (by decide) c9)
  refine lv_aload_n hx hb dX8_step_47 rfl (lv_at hl 2 rfl) ?_
  refine va_get (D := (dC, dI)) (ci := 7) (v := .ref m5) (C := RX8) (T := TX8) (N := 31) hx hb hts hiX8 hown hK hP 0 rfl rfl 21 (by decide) (hts (.fieldLink RX8 42 "RefineRegionsModel" "states" "[I") (by decide +kernel)) (fun _ h9 => h9) rfl dX8_step_48 ?_
  refine lv_iload_n hx hb dX8_step_51 rfl (lv_at hl 3 rfl) ?_
  refine lv_aload_n hx hb dX8_step_52 rfl (lv_at hl 2 rfl) ?_
  refine va_get (D := (dC, dI)) (ci := 7) (v := .ref m1) (C := RX8) (T := TX8) (N := 31) hx hb hts hiX8 hown hK hP 0 rfl rfl 1 (by decide) (hts (.fieldLink RX8 7 "RefineRegionsModel" "table" "[I") (by decide +kernel)) (fun _ h9 => h9) rfl dX8_step_53 ?_
  refine lv_iconst (v := 4) hx hb dX8_step_56 (by decide) ?_
  refine lv_iload_n hx hb dX8_step_57 rfl (lv_at hl 1 rfl) ?_
  refine lv_imul hx hb dX8_step_58 ?_
  refine hw_i (y := nI (4 * (SR n / 2))) (by rw [show (4 : Int32) = nI 4 from rfl, pk_mul]) ?_
  refine lv_iconst (v := 2) hx hb dX8_step_59 (by decide) ?_
  refine lv_iadd hx hb dX8_step_60 ?_
  refine hw_i (y := nI (4 * (SR n / 2) + 2)) (by rw [show (2 : Int32) = nI 2 from rfl, nI_add]) ?_
  refine va_iald hx hb hK hP 1 0 rfl rfl (vp_in_nI (by have := hS94 n; omega) (by decide)) dX8_step_61 ?_
  refine hw_i (y := nI (sp_t (4 * (SR n / 2) + 2))) (by rw [nI_clamp (by have := hS94 n; omega)]) ?_
  refine lv_iconst (v := 1) hx hb dX8_step_62 (by decide) ?_
  refine lv_ishl hx hb dX8_step_63 ?_
  refine lv_aload_n hx hb dX8_step_64 rfl (lv_at hl 2 rfl) ?_
  refine va_get (D := (dC, dI)) (ci := 7) (v := .ref m1) (C := RX8) (T := TX8) (N := 31) hx hb hts hiX8 hown hK hP 0 rfl rfl 1 (by decide) (hts (.fieldLink RX8 7 "RefineRegionsModel" "table" "[I") (by decide +kernel)) (fun _ h9 => h9) rfl dX8_step_65 ?_
  refine lv_iconst (v := 4) hx hb dX8_step_68 (by decide) ?_
  refine lv_iload_n hx hb dX8_step_69 rfl (lv_at hl 1 rfl) ?_
  refine lv_imul hx hb dX8_step_70 ?_
  refine hw_i (y := nI (4 * (SR n / 2))) (by rw [show (4 : Int32) = nI 4 from rfl, pk_mul]) ?_
  refine lv_iconst (v := 3) hx hb dX8_step_71 (by decide) ?_
  refine lv_iadd hx hb dX8_step_72 ?_
  refine hw_i (y := nI (4 * (SR n / 2) + 3)) (by rw [show (3 : Int32) = nI 3 from rfl, nI_add]) ?_
  refine va_iald hx hb hK hP 1 0 rfl rfl (vp_in_nI (by have := hS94 n; omega) (by decide)) dX8_step_73 ?_
  refine hw_i (y := nI (sp_t (4 * (SR n / 2) + 3))) (by rw [nI_clamp (by have := hS94 n; omega)]) ?_
  refine lv_iconst (v := 1) hx hb dX8_step_74 (by decide) ?_
  refine lv_icmp_ne (tgt := 85) hx hb dX8_step_75 (by decide) (fun c_75 => ?_) (fun c_75 => ?_)
  · refine lv_iload hx hb dX8_step_85 (lv_at hl 0 rfl) ?_
    refine lv_ior hx hb dX8_step_87 ?_
    refine hw_i (y := nI (sp_nx (SR n) false)) (sp_nx_f2 (hS94 n) c_75) ?_
    refine va_iast hx hb hK hP hD hS 2 0 rfl rfl (vp_in_nI (by omega) (by decide)) dX8_step_88 (fun H locs hP hD hS => ?_)
    have eA : upd (sp_cat SW SR) (nI (8192 + n)).toNatClampNeg (nI (sp_nx (SR n) false)) = sp_cat SW (sp_up SR n (sp_nx (SR n) false)) := by rw [nI_clamp (by omega)]; exact sp_cat_ur _ _
    rw [eA] at hP hD
    have hP : va_P (dC, dI) vwCl [(m0, .inr (7, [.int th, .ref m1, .int (nI w), .int (nI h), .int tp, .int ty, .ref m2, .ref m3, .int sf, .int rdg, .int rt, .int (nI rwd), .int (nI rht), .ref m4, .int dx, .int dy, .int p0, .int q0, .int p1, .int q1, .int kp, .ref m5, .ref m6, .int (nI k), .int (nI sk), .int (nI tr), .int (nI co), .long ma, .long mc, .int mt, .int (nI b)])), (m1, .inl (cI, 188, .inl (fun j => nI (sp_t j)))), (m5, .inl (cI, 16384, .inl (sp_cat SW (sp_up SR n (sp_nx (SR n) false)))))] H := hP
    have hD : va_D A [(m0, .inr (7, [.int th, .ref m1, .int (nI w), .int (nI h), .int tp, .int ty, .ref m2, .ref m3, .int sf, .int rdg, .int rt, .int (nI rwd), .int (nI rht), .ref m4, .int dx, .int dy, .int p0, .int q0, .int p1, .int q1, .int kp, .ref m5, .ref m6, .int (nI k), .int (nI sk), .int (nI tr), .int (nI co), .long ma, .long mc, .int mt, .int (nI b)])), (m1, .inl (cI, 188, .inl (fun j => nI (sp_t j)))), (m5, .inl (cI, 16384, .inl (sp_cat SW (sp_up SR n (sp_nx (SR n) false)))))] := hD
    have hP9 := hP
    have hD9 := hD
    exact W.vret hx hb hr (fun t ht hW => ⟨⟨(), rfl, trivial, by rw [ht]; exact hP9, va_K.moved hW.alike hK, hD9⟩, hS.F ht⟩) hS.2.2 dX8_step_89
  · refine lv_iconst (v := 1) hx hb dX8_step_78 (by decide) ?_
    refine lv_iload hx hb dX8_step_79 (lv_at hl 0 rfl) ?_
    refine lv_isub hx hb dX8_step_81 ?_
    refine lv_goto (tgt := 87) hx hb dX8_step_82 (by decide) ?_
    refine lv_ior hx hb dX8_step_87 ?_
    refine hw_i (y := nI (sp_nx (SR n) false)) (sp_nx_f1 (hS94 n) c_75) ?_
    refine va_iast hx hb hK hP hD hS 2 0 rfl rfl (vp_in_nI (by omega) (by decide)) dX8_step_88 (fun H locs hP hD hS => ?_)
    have eA : upd (sp_cat SW SR) (nI (8192 + n)).toNatClampNeg (nI (sp_nx (SR n) false)) = sp_cat SW (sp_up SR n (sp_nx (SR n) false)) := by rw [nI_clamp (by omega)]; exact sp_cat_ur _ _
    rw [eA] at hP hD
    have hP : va_P (dC, dI) vwCl [(m0, .inr (7, [.int th, .ref m1, .int (nI w), .int (nI h), .int tp, .int ty, .ref m2, .ref m3, .int sf, .int rdg, .int rt, .int (nI rwd), .int (nI rht), .ref m4, .int dx, .int dy, .int p0, .int q0, .int p1, .int q1, .int kp, .ref m5, .ref m6, .int (nI k), .int (nI sk), .int (nI tr), .int (nI co), .long ma, .long mc, .int mt, .int (nI b)])), (m1, .inl (cI, 188, .inl (fun j => nI (sp_t j)))), (m5, .inl (cI, 16384, .inl (sp_cat SW (sp_up SR n (sp_nx (SR n) false)))))] H := hP
    have hD : va_D A [(m0, .inr (7, [.int th, .ref m1, .int (nI w), .int (nI h), .int tp, .int ty, .ref m2, .ref m3, .int sf, .int rdg, .int rt, .int (nI rwd), .int (nI rht), .ref m4, .int dx, .int dy, .int p0, .int q0, .int p1, .int q1, .int kp, .ref m5, .ref m6, .int (nI k), .int (nI sk), .int (nI tr), .int (nI co), .long ma, .long mc, .int mt, .int (nI b)])), (m1, .inl (cI, 188, .inl (fun j => nI (sp_t j)))), (m5, .inl (cI, 16384, .inl (sp_cat SW (sp_up SR n (sp_nx (SR n) false)))))] := hD
    have hP9 := hP
    have hD9 := hD
    exact W.vret hx hb hr (fun t ht hW => ⟨⟨(), rfl, trivial, by rw [ht]; exact hP9, va_K.moved hW.alike hK, hD9⟩, hS.F ht⟩) hS.2.2 dX8_step_89

set_option maxHeartbeats 4000000 in
set_option maxRecDepth 100000 in
/-- write(at, bit) -/
theorem c_X8_write (l : Launch) (dC : Nat → ClassId) (dI : Nat → Nat → Nat) (cI cZ cJ : ClassId) (m0 : Nat) (m1 : Nat) (m2 : Nat) (m3 : Nat) (m4 : Nat) (m5 : Nat) (m6 : Nat) (th : Int32) (tp : Int32) (ty : Int32) (sf : Int32) (rdg : Int32) (rt : Int32) (dx : Int32) (dy : Int32) (p0 : Int32) (q0 : Int32) (p1 : Int32) (q1 : Int32) (kp : Int32) (w : Nat) (h : Nat) (rwd : Nat) (rht : Nat) (k : Nat) (sk : Nat) (tr : Nat) (co : Nat) (b : Nat) (SW : Nat → Nat) (SR : Nat → Nat) (f : Nat → Int32) (wa : Nat) (wc : Nat) (wt : Nat) (n : Nat) (bit : Nat) (K : Nat) (hI : sp_WI K (wa, wc, wt, k, f)) (ha0 : 32768 ≤ wa) (hK0 : K ≤ 27985) (hS94 : ∀ j, SW j < 94) (hn0 : n < 8192) (hbit : bit < 2) (sz : Nat) : Met l yX8_write wsX8_write ({ frames := 3, cells := 0, slots := 0, locals := 64 }) (hw_Pre (dC, dI) vwCl (ty3 cI cZ cJ) [(m0, .inr (7, [.int th, .ref m1, .int (nI w), .int (nI h), .int tp, .int ty, .ref m2, .ref m3, .int sf, .int rdg, .int rt, .int (nI rwd), .int (nI rht), .ref m4, .int dx, .int dy, .int p0, .int q0, .int p1, .int q1, .int kp, .ref m5, .ref m6, .int (nI k), .int (nI sk), .int (nI tr), .int (nI co), .long (lN wa), .long (lN wc), .int (nI wt), .int (nI b)])), (m1, .inl (cI, 188, .inl (fun j => nI (sp_t j)))), (m5, .inl (cI, 16384, .inl (sp_cat SW SR))), (m6, .inl (cI, 4200, .inl f))] sz [.ref m0, .int (nI n), .int (nI bit)]) (va_Qv (fun _ : Unit => True) (hw_at (dC, dI) vwCl (ty3 cI cZ cJ) (fun _ : Unit => [(m0, .inr (7, [.int th, .ref m1, .int (nI w), .int (nI h), .int tp, .int ty, .ref m2, .ref m3, .int sf, .int rdg, .int rt, .int (nI rwd), .int (nI rht), .ref m4, .int dx, .int dy, .int p0, .int q0, .int p1, .int q1, .int kp, .ref m5, .ref m6, .int (nI ((sp_wb (wa, wc, wt, k, f) SW n bit).1.2.2.2.1)), .int (nI sk), .int (nI tr), .int (nI (co + 1)), .long (lN ((sp_wb (wa, wc, wt, k, f) SW n bit).1.1)), .long (lN ((sp_wb (wa, wc, wt, k, f) SW n bit).1.2.1)), .int (nI ((sp_wb (wa, wc, wt, k, f) SW n bit).1.2.2.1)), .int (nI b)])), (m1, .inl (cI, 188, .inl (fun j => nI (sp_t j)))), (m5, .inl (cI, 16384, .inl (sp_cat ((sp_wb (wa, wc, wt, k, f) SW n bit).2) SR))), (m6, .inl (cI, 4200, .inl ((sp_wb (wa, wc, wt, k, f) SW n bit).1.2.2.2.2)))]) (va_A [(m0, .inr (7, [.int th, .ref m1, .int (nI w), .int (nI h), .int tp, .int ty, .ref m2, .ref m3, .int sf, .int rdg, .int rt, .int (nI rwd), .int (nI rht), .ref m4, .int dx, .int dy, .int p0, .int q0, .int p1, .int q1, .int kp, .ref m5, .ref m6, .int (nI k), .int (nI sk), .int (nI tr), .int (nI co), .long (lN wa), .long (lN wc), .int (nI wt), .int (nI b)])), (m1, .inl (cI, 188, .inl (fun j => nI (sp_t j)))), (m5, .inl (cI, 16384, .inl (sp_cat SW SR))), (m6, .inl (cI, 4200, .inl f))] sz)) (va_A [(m0, .inr (7, [.int th, .ref m1, .int (nI w), .int (nI h), .int tp, .int ty, .ref m2, .ref m3, .int sf, .int rdg, .int rt, .int (nI rwd), .int (nI rht), .ref m4, .int dx, .int dy, .int p0, .int q0, .int p1, .int q1, .int kp, .ref m5, .ref m6, .int (nI k), .int (nI sk), .int (nI tr), .int (nI co), .long (lN wa), .long (lN wc), .int (nI wt), .int (nI b)])), (m1, .inl (cI, 188, .inl (fun j => nI (sp_t j)))), (m5, .inl (cI, 16384, .inl (sp_cat SW SR))), (m6, .inl (cI, 4200, .inl f))] sz)) 0 0 (va_A [(m0, .inr (7, [.int th, .ref m1, .int (nI w), .int (nI h), .int tp, .int ty, .ref m2, .ref m3, .int sf, .int rdg, .int rt, .int (nI rwd), .int (nI rht), .ref m4, .int dx, .int dy, .int p0, .int q0, .int p1, .int q1, .int kp, .ref m5, .ref m6, .int (nI k), .int (nI sk), .int (nI tr), .int (nI co), .long (lN wa), .long (lN wc), .int (nI wt), .int (nI b)])), (m1, .inl (cI, 188, .inl (fun j => nI (sp_t j)))), (m5, .inl (cI, 16384, .inl (sp_cat SW SR))), (m6, .inl (cI, 4200, .inl f))] sz) := by
  refine Met.ofW (cc := cX8_write) (maxL := 6) (ret := none) (by decide) rfl ?_
  intro pg ev s m args below meth cd s₁ B hml hv
  obtain ⟨rfl, hsz, hP, hK, hN, hZ, hD0⟩ := hv
  have hx := B.exec
  have hb := B.bytes
  have hr := B.returns
  have hts := atoms_spec (ws := wsX8_write) B.pre
  have hown : s.vm.findClass RX8 = some m.cls := findClass_of_methodNamed B.named
  have hlocks := B.notSynchronized
  subst hsz
  have hD := hD0.self (sz := s.heap.size)
  generalize hAe : va_A [(m0, .inr (7, [.int th, .ref m1, .int (nI w), .int (nI h), .int tp, .int ty, .ref m2, .ref m3, .int sf, .int rdg, .int rt, .int (nI rwd), .int (nI rht), .ref m4, .int dx, .int dy, .int p0, .int q0, .int p1, .int q1, .int kp, .ref m5, .ref m6, .int (nI k), .int (nI sk), .int (nI tr), .int (nI co), .long (lN wa), .long (lN wc), .int (nI wt), .int (nI b)])), (m1, .inl (cI, 188, .inl (fun j => nI (sp_t j)))), (m5, .inl (cI, 16384, .inl (sp_cat SW SR))), (m6, .inl (cI, 4200, .inl f))] s.heap.size = A at hD hZ ⊢
  have hA : ∀ q : Nat, s.heap.size ≤ q → A q := fun q h => by rw [← hAe]; exact Or.inr h
  have hS : va_S A s.heap s.heap [] := va_S.rf
  have hk : hw_K (dC, dI) vwCl (ty3 cI cZ cJ) A s := ⟨hK, hN, hZ⟩
  have hiX8 : ∀ w ∈ u_ws RX8 TX8 31, w ∈ wsX8_write := by decide +kernel
  obtain ⟨g1, g2⟩ := sp_q_in hS94 n
  have g3 := hI.2.1
  dsimp only at g3
  have g4 : SW n % 2 < 2 := Nat.mod_lt _ (by decide)
  have g5 : wc < 150994944 := by
    obtain ⟨-, -, q3, -, q5, -, -⟩ := hI
    dsimp only at q3 q5
    have q6 : (wc + wa) * 1 ≤ (wc + wa) * 2 ^ wt := Nat.mul_le_mul_left _ (Nat.one_le_two_pow)
    omega
  have hl := lv_entry ([.ref m0, .int (nI n), .int (nI bit)]) (n := 6) (Nat.le_of_ble_eq_true rfl)
  rw [lg_entry_eq]
  generalize (lg_sl ([.ref m0, .int (nI n), .int (nI bit)]) ++ List.replicate (6 - (lg_sl ([.ref m0, .int (nI n), .int (nI bit)])).length) Slot.unset).toArray = ls at hl ⊢
  have hl : lv_has ls 6 [(0, .ref m0), (1, .int (nI n)), (2, .int (nI bit))] := hl
  refine lv_aload_n hx hb dX8_write_0 rfl (lv_at hl 0 rfl) ?_
  refine lv_dup hx hb dX8_write_1 rfl ?_
  refine va_get (D := (dC, dI)) (ci := 7) (v := .int (nI co)) (C := RX8) (T := TX8) (N := 31) hx hb hts hiX8 hown hK hP 0 rfl rfl 26 (by decide) (hts (.fieldLink RX8 134 "RefineRegionsModel" "coded" "I") (by decide +kernel)) (fun _ h9 => h9) rfl dX8_write_2 ?_
  refine lv_iconst (v := 1) hx hb dX8_write_5 (by decide) ?_
  refine lv_iadd hx hb dX8_write_6 ?_
  refine hw_i (y := nI (co + 1)) (nI_1 co) ?_
  refine va_put (D := (dC, dI)) (ci := 7) (v := .int (nI (co + 1))) (ty := .int) (C := RX8) (T := TX8) (N := 31) hx hb hts hiX8 tyX8 tyX8_ok nmX8 hown hK hP hD hS 0 rfl rfl 26 (by decide) (hts (.fieldLink RX8 134 "RefineRegionsModel" "coded" "I") (by decide +kernel)) (fun _ h9 => h9) rfl (by decide +kernel) rfl rfl (Nat.le_of_ble_eq_true rfl) dX8_write_7 (fun H locs hP hD hS => ?_)
  have hP : va_P (dC, dI) vwCl [(m0, .inr (7, [.int th, .ref m1, .int (nI w), .int (nI h), .int tp, .int ty, .ref m2, .ref m3, .int sf, .int rdg, .int rt, .int (nI rwd), .int (nI rht), .ref m4, .int dx, .int dy, .int p0, .int q0, .int p1, .int q1, .int kp, .ref m5, .ref m6, .int (nI k), .int (nI sk), .int (nI tr), .int (nI (co + 1)), .long (lN wa), .long (lN wc), .int (nI wt), .int (nI b)])), (m1, .inl (cI, 188, .inl (fun j => nI (sp_t j)))), (m5, .inl (cI, 16384, .inl (sp_cat SW SR))), (m6, .inl (cI, 4200, .inl f))] H := hP
  have hD : va_D A [(m0, .inr (7, [.int th, .ref m1, .int (nI w), .int (nI h), .int tp, .int ty, .ref m2, .ref m3, .int sf, .int rdg, .int rt, .int (nI rwd), .int (nI rht), .ref m4, .int dx, .int dy, .int p0, .int q0, .int p1, .int q1, .int kp, .ref m5, .ref m6, .int (nI k), .int (nI sk), .int (nI tr), .int (nI (co + 1)), .long (lN wa), .long (lN wc), .int (nI wt), .int (nI b)])), (m1, .inl (cI, 188, .inl (fun j => nI (sp_t j)))), (m5, .inl (cI, 16384, .inl (sp_cat SW SR))), (m6, .inl (cI, 4200, .inl f))] := hD
  refine lv_aload_n hx hb dX8_write_10 rfl (lv_at hl 0 rfl) ?_
  refine va_get (D := (dC, dI)) (ci := 7) (v := .ref m1) (C := RX8) (T := TX8) (N := 31) hx hb hts hiX8 hown hK hP 0 rfl rfl 1 (by decide) (hts (.fieldLink RX8 7 "RefineRegionsModel" "table" "[I") (by decide +kernel)) (fun _ h9 => h9) rfl dX8_write_11 ?_
  refine lv_iconst (v := 4) hx hb dX8_write_14 (by decide) ?_
  refine lv_aload_n hx hb dX8_write_15 rfl (lv_at hl 0 rfl) ?_
  refine va_get (D := (dC, dI)) (ci := 7) (v := .ref m5) (C := RX8) (T := TX8) (N := 31) hx hb hts hiX8 hown hK hP 0 rfl rfl 21 (by decide) (hts (.fieldLink RX8 42 "RefineRegionsModel" "states" "[I") (by decide +kernel)) (fun _ h9 => h9) rfl dX8_write_16 ?_
  refine lv_iload_n hx hb dX8_write_19 rfl (lv_at hl 1 rfl) ?_
  refine va_iald hx hb hK hP 2 0 rfl rfl (vp_in_nI (by omega) (by decide)) dX8_write_20 ?_
  refine hw_i (y := nI (SW n)) (by rw [nI_clamp (by omega)]; exact sp_cat_w _ _ hn0) ?_
  refine lv_iconst (v := 1) hx hb dX8_write_21 (by decide) ?_
  refine lv_ishr hx hb dX8_write_22 ?_
  refine hw_i (y := nI (SW n / 2)) (pk_shrN (by have := hS94 n; omega) _ 1 (by decide)) ?_
  refine lv_imul hx hb dX8_write_23 ?_
  refine hw_i (y := nI (4 * (SW n / 2))) (by rw [show (4 : Int32) = nI 4 from rfl, pk_mul]) ?_
  refine va_iald hx hb hK hP 1 0 rfl rfl (vp_in_nI (by have := hS94 n; omega) (by decide)) dX8_write_24 ?_
  refine hw_i (y := nI (sp_q SW n)) (by rw [nI_clamp (by have := hS94 n; omega)]; rfl) ?_
  refine lv_istore_n (lv' := [(3, .int (nI (sp_q SW n))), (0, .ref m0), (1, .int (nI n)), (2, .int (nI bit))]) hx hb dX8_write_25 rfl hl (by decide) rfl (fun ls hl => ?_)
  refine lv_iload_n hx hb dX8_write_26 rfl (lv_at hl 3 rfl) ?_
  refine lv_aload_n hx hb dX8_write_27 rfl (lv_at hl 1 rfl) ?_
  refine va_get (D := (dC, dI)) (ci := 7) (v := .ref m5) (C := RX8) (T := TX8) (N := 31) hx hb hts hiX8 hown hK hP 0 rfl rfl 21 (by decide) (hts (.fieldLink RX8 42 "RefineRegionsModel" "states" "[I") (by decide +kernel)) (fun _ h9 => h9) rfl dX8_write_28 ?_
  refine lv_iload_n hx hb dX8_write_31 rfl (lv_at hl 2 rfl) ?_
  refine va_iald hx hb hK hP 2 0 rfl rfl (vp_in_nI (by omega) (by decide)) dX8_write_32 ?_
  refine hw_i (y := nI (SW n)) (by rw [nI_clamp (by omega)]; exact sp_cat_w _ _ hn0) ?_
  refine lv_iconst (v := 1) hx hb dX8_write_33 (by decide) ?_
  refine lv_iand hx hb dX8_write_34 ?_
  refine hw_i (y := nI (SW n % 2)) (pk_andN (by have := hS94 n; omega) 1 (by decide)) ?_
  refine lv_icmp_ne (tgt := 42) hx hb dX8_write_35 (by decide) (fun c_35 => ?_) (fun c_35 => ?_)
  · refine lv_iconst (v := 0) hx hb dX8_write_42 (by decide) ?_
    refine lv_istore (lv' := [(4, .int 0), (3, .int (nI (sp_q SW n))), (0, .ref m0), (1, .int (nI n)), (2, .int (nI bit))]) hx hb dX8_write_43 hl (by decide) rfl (fun ls hl => ?_)
    refine lv_aload_n hx hb dX8_write_45 rfl (lv_at hl 2 rfl) ?_
    refine lv_aload_n hx hb dX8_write_46 rfl (lv_at hl 2 rfl) ?_
    refine va_get (D := (dC, dI)) (ci := 7) (v := .long (lN wa)) (C := RX8) (T := TX8) (N := 31) hx hb hts hiX8 hown hK hP 0 rfl rfl 27 (by decide) (hts (.fieldLink RX8 126 "RefineRegionsModel" "a" "J") (by decide +kernel)) (fun _ h9 => h9) rfl dX8_write_47 ?_
    refine lv_iload_n hx hb dX8_write_50 rfl (lv_at hl 1 rfl) ?_
    refine lv_i2l (v := (nI (sp_q SW n)).toInt64) hx hb dX8_write_51 rfl ?_
    refine hw_l (y := lN (sp_q SW n)) (nI_l (by omega)) ?_
    refine lv_lsub hx hb dX8_write_52 ?_
    refine hw_l (y := lN (wa - sp_q SW n)) (lN_sub (by omega)) ?_
    refine va_put (D := (dC, dI)) (ci := 7) (v := .long (lN (wa - sp_q SW n))) (ty := .long) (C := RX8) (T := TX8) (N := 31) hx hb hts hiX8 tyX8 tyX8_ok nmX8 hown hK hP hD hS 0 rfl rfl 27 (by decide) (hts (.fieldLink RX8 126 "RefineRegionsModel" "a" "J") (by decide +kernel)) (fun _ h9 => h9) rfl (by decide +kernel) rfl rfl (Nat.le_of_ble_eq_true rfl) dX8_write_53 (fun H locs hP hD hS => ?_)
    have hP : va_P (dC, dI) vwCl [(m0, .inr (7, [.int th, .ref m1, .int (nI w), .int (nI h), .int tp, .int ty, .ref m2, .ref m3, .int sf, .int rdg, .int rt, .int (nI rwd), .int (nI rht), .ref m4, .int dx, .int dy, .int p0, .int q0, .int p1, .int q1, .int kp, .ref m5, .ref m6, .int (nI k), .int (nI sk), .int (nI tr), .int (nI (co + 1)), .long (lN (wa - sp_q SW n)), .long (lN wc), .int (nI wt), .int (nI b)])), (m1, .inl (cI, 188, .inl (fun j => nI (sp_t j)))), (m5, .inl (cI, 16384, .inl (sp_cat SW SR))), (m6, .inl (cI, 4200, .inl f))] H := hP
    have hD : va_D A [(m0, .inr (7, [.int th, .ref m1, .int (nI w), .int (nI h), .int tp, .int ty, .ref m2, .ref m3, .int sf, .int rdg, .int rt, .int (nI rwd), .int (nI rht), .ref m4, .int dx, .int dy, .int p0, .int q0, .int p1, .int q1, .int kp, .ref m5, .ref m6, .int (nI k), .int (nI sk), .int (nI tr), .int (nI (co + 1)), .long (lN (wa - sp_q SW n)), .long (lN wc), .int (nI wt), .int (nI b)])), (m1, .inl (cI, 188, .inl (fun j => nI (sp_t j)))), (m5, .inl (cI, 16384, .inl (sp_cat SW SR))), (m6, .inl (cI, 4200, .inl f))] := hD
    refine lv_iload hx hb dX8_write_56 (lv_at hl 0 rfl) ?_
    refine lv_if_eq (tgt := 84) hx hb dX8_write_58 (by decide) (fun _ => ?_) (fun c9 => absurd (by decide) c9)
    refine lv_aload_n hx hb dX8_write_84 rfl (lv_at hl 2 rfl) ?_
    refine va_get (D := (dC, dI)) (ci := 7) (v := .long (lN (wa - sp_q SW n))) (C := RX8) (T := TX8) (N := 31) hx hb hts hiX8 hown hK hP 0 rfl rfl 27 (by decide) (hts (.fieldLink RX8 126 "RefineRegionsModel" "a" "J") (by decide +kernel)) (fun _ h9 => h9) rfl dX8_write_85 ?_
    refine lv_iload_n hx hb dX8_write_88 rfl (lv_at hl 1 rfl) ?_
    refine lv_i2l (v := (nI (sp_q SW n)).toInt64) hx hb dX8_write_89 rfl ?_
    refine hw_l (y := lN (sp_q SW n)) (nI_l (by omega)) ?_
    refine W.lcmp hx hb dX8_write_90 ?_
    refine lv_if_ge (tgt := 98) hx hb dX8_write_91 (by decide) (fun c_91 => ?_) (fun c_91 => ?_)
    · refine lv_iconst (v := 0) hx hb dX8_write_98 (by decide) ?_
      refine lv_istore (lv' := [(5, .int 0), (4, .int 0), (3, .int (nI (sp_q SW n))), (0, .ref m0), (1, .int (nI n)), (2, .int (nI bit))]) hx hb dX8_write_99 hl (by decide) rfl (fun ls hl => ?_)
      refine lv_iload hx hb dX8_write_101 (lv_at hl 1 rfl) ?_
      refine lv_iload hx hb dX8_write_103 (lv_at hl 0 rfl) ?_
      refine lv_icmp_ne (tgt := 117) hx hb dX8_write_105 (by decide) (fun c9 => absurd c9 (by decide)) (fun _ => ?_)
      refine lv_aload_n hx hb dX8_write_108 rfl (lv_at hl 3 rfl) ?_
      refine lv_iload_n hx hb dX8_write_109 rfl (lv_at hl 2 rfl) ?_
      refine lv_i2l (v := (nI (sp_q SW n)).toInt64) hx hb dX8_write_110 rfl ?_
      refine hw_l (y := lN (sp_q SW n)) (nI_l (by omega)) ?_
      refine va_put (D := (dC, dI)) (ci := 7) (v := .long (lN (sp_q SW n))) (ty := .long) (C := RX8) (T := TX8) (N := 31) hx hb hts hiX8 tyX8 tyX8_ok nmX8 hown hK hP hD hS 0 rfl rfl 27 (by decide) (hts (.fieldLink RX8 126 "RefineRegionsModel" "a" "J") (by decide +kernel)) (fun _ h9 => h9) rfl (by decide +kernel) rfl rfl (Nat.le_of_ble_eq_true rfl) dX8_write_111 (fun H locs hP hD hS => ?_)
      have hP : va_P (dC, dI) vwCl [(m0, .inr (7, [.int th, .ref m1, .int (nI w), .int (nI h), .int tp, .int ty, .ref m2, .ref m3, .int sf, .int rdg, .int rt, .int (nI rwd), .int (nI rht), .ref m4, .int dx, .int dy, .int p0, .int q0, .int p1, .int q1, .int kp, .ref m5, .ref m6, .int (nI k), .int (nI sk), .int (nI tr), .int (nI (co + 1)), .long (lN (sp_q SW n)), .long (lN wc), .int (nI wt), .int (nI b)])), (m1, .inl (cI, 188, .inl (fun j => nI (sp_t j)))), (m5, .inl (cI, 16384, .inl (sp_cat SW SR))), (m6, .inl (cI, 4200, .inl f))] H := hP
      have hD : va_D A [(m0, .inr (7, [.int th, .ref m1, .int (nI w), .int (nI h), .int tp, .int ty, .ref m2, .ref m3, .int sf, .int rdg, .int rt, .int (nI rwd), .int (nI rht), .ref m4, .int dx, .int dy, .int p0, .int q0, .int p1, .int q1, .int kp, .ref m5, .ref m6, .int (nI k), .int (nI sk), .int (nI tr), .int (nI (co + 1)), .long (lN (sp_q SW n)), .long (lN wc), .int (nI wt), .int (nI b)])), (m1, .inl (cI, 188, .inl (fun j => nI (sp_t j)))), (m5, .inl (cI, 16384, .inl (sp_cat SW SR))), (m6, .inl (cI, 4200, .inl f))] := hD
      refine lv_goto (tgt := 128) hx hb dX8_write_114 (by decide) ?_
      refine lv_aload_n hx hb dX8_write_128 rfl (lv_at hl 3 rfl) ?_
      refine lv_iload_n hx hb dX8_write_129 rfl (lv_at hl 4 rfl) ?_
      refine lv_iload hx hb dX8_write_130 (lv_at hl 1 rfl) ?_
      refine hw_callv (wr := [(m6, .inl (cI, 4200, .inl f))]) (w2 := fun _ : Unit => [(m0, .inr (7, [.int th, .ref m1, .int (nI w), .int (nI h), .int tp, .int ty, .ref m2, .ref m3, .int sf, .int rdg, .int rt, .int (nI rwd), .int (nI rht), .ref m4, .int dx, .int dy, .int p0, .int q0, .int p1, .int q1, .int kp, .ref m5, .ref m6, .int (nI k), .int (nI sk), .int (nI tr), .int (nI (co + 1)), .long (lN (sp_q SW n)), .long (lN wc), .int (nI wt), .int (nI b)])), (m1, .inl (cI, 188, .inl (fun j => nI (sp_t j)))), (m5, .inl (cI, 16384, .inl (sp_cat (sp_up SW n (sp_nx (SW n) false)) SR))), (m6, .inl (cI, 4200, .inl f))]) (va_runV (As := [.int (nI n), .int 0]) (rest := []) ⟨hx, hb, hml, hown, hts⟩ (c_X8_step_w_false l dC dI cI cZ cJ m0 m1 m2 m3 m4 m5 m6 th tp ty sf rdg rt dx dy p0 q0 p1 q1 kp w h rwd rht k sk tr (co + 1) b (lN (sp_q SW n)) (lN wc) (nI wt) SW SR n (hS94) (hn0) H.size) (cwV 2 hts gX8_write_X8_step rfl rfl rfl (by decide +kernel) ⟨Nat.le_of_ble_eq_true rfl, Nat.le_of_ble_eq_true rfl⟩) (hw_preV hP hD hS hA hk [0, 1, 2] (by decide) rfl (ci := 7) (q0 := 0) rfl rfl) rfl rfl hl.1 rfl (lv_room (Nat.le_of_ble_eq_true rfl)) dX8_write_132 ⟨Nat.le_of_ble_eq_true rfl, Nat.le_of_ble_eq_true rfl⟩) hP hD hS hA [0, 1, 2] [3] [1, 2, 3, 0] rfl rfl (by decide) (by decide) (by decide) (fun _ => rfl) (fun u_132 H locs hw hP hD hS => ?_)
      have hP : va_P (dC, dI) vwCl [(m0, .inr (7, [.int th, .ref m1, .int (nI w), .int (nI h), .int tp, .int ty, .ref m2, .ref m3, .int sf, .int rdg, .int rt, .int (nI rwd), .int (nI rht), .ref m4, .int dx, .int dy, .int p0, .int q0, .int p1, .int q1, .int kp, .ref m5, .ref m6, .int (nI k), .int (nI sk), .int (nI tr), .int (nI (co + 1)), .long (lN (sp_q SW n)), .long (lN wc), .int (nI wt), .int (nI b)])), (m1, .inl (cI, 188, .inl (fun j => nI (sp_t j)))), (m5, .inl (cI, 16384, .inl (sp_cat (sp_up SW n (sp_nx (SW n) false)) SR))), (m6, .inl (cI, 4200, .inl f))] H := hP
      have hD : va_D A [(m0, .inr (7, [.int th, .ref m1, .int (nI w), .int (nI h), .int tp, .int ty, .ref m2, .ref m3, .int sf, .int rdg, .int rt, .int (nI rwd), .int (nI rht), .ref m4, .int dx, .int dy, .int p0, .int q0, .int p1, .int q1, .int kp, .ref m5, .ref m6, .int (nI k), .int (nI sk), .int (nI tr), .int (nI (co + 1)), .long (lN (sp_q SW n)), .long (lN wc), .int (nI wt), .int (nI b)])), (m1, .inl (cI, 188, .inl (fun j => nI (sp_t j)))), (m5, .inl (cI, 16384, .inl (sp_cat (sp_up SW n (sp_nx (SW n) false)) SR))), (m6, .inl (cI, 4200, .inl f))] := hD
      refine lv_aload_n hx hb dX8_write_135 rfl (lv_at hl 3 rfl) ?_
      refine hw_callv (wr := [(m1, .inl (cI, 188, .inl (fun j => nI (sp_t j)))), (m5, .inl (cI, 16384, .inl (sp_cat (sp_up SW n (sp_nx (SW n) false)) SR)))]) (w2 := fun _ : Unit => [(m0, .inr (7, [.int th, .ref m1, .int (nI w), .int (nI h), .int tp, .int ty, .ref m2, .ref m3, .int sf, .int rdg, .int rt, .int (nI rwd), .int (nI rht), .ref m4, .int dx, .int dy, .int p0, .int q0, .int p1, .int q1, .int kp, .ref m5, .ref m6, .int (nI ((sp_rn 15 ((sp_q SW n), wc, wt, k, f)).2.2.2.1)), .int (nI sk), .int (nI tr), .int (nI (co + 1)), .long (lN ((sp_rn 15 ((sp_q SW n), wc, wt, k, f)).1)), .long (lN ((sp_rn 15 ((sp_q SW n), wc, wt, k, f)).2.1)), .int (nI ((sp_rn 15 ((sp_q SW n), wc, wt, k, f)).2.2.1)), .int (nI b)])), (m1, .inl (cI, 188, .inl (fun j => nI (sp_t j)))), (m5, .inl (cI, 16384, .inl (sp_cat (sp_up SW n (sp_nx (SW n) false)) SR))), (m6, .inl (cI, 4200, .inl ((sp_rn 15 ((sp_q SW n), wc, wt, k, f)).2.2.2.2)))]) (va_runV (As := []) (rest := []) ⟨hx, hb, hml, hown, hts⟩ (c_X8_renewWriting l dC dI cI cZ cJ m0 m1 m2 m3 m4 m5 m6 th tp ty sf rdg rt dx dy p0 q0 p1 q1 kp w h rwd rht k sk tr (co + 1) b f (sp_q SW n) wc wt K (sp_WI_lo hI g1 (by omega)) (by omega) (hK0) H.size) (cwV 0 hts gX8_write_X8_renewWriting rfl rfl rfl (by decide +kernel) ⟨Nat.le_of_ble_eq_true rfl, Nat.le_of_ble_eq_true rfl⟩) (hw_preV hP hD hS hA hk [0, 3] (by decide) rfl (ci := 7) (q0 := 0) rfl rfl) rfl rfl hl.1 rfl (lv_room (Nat.le_of_ble_eq_true rfl)) dX8_write_136 ⟨Nat.le_of_ble_eq_true rfl, Nat.le_of_ble_eq_true rfl⟩) hP hD hS hA [0, 3] [1, 2] [2, 0, 1, 3] rfl rfl (by decide) (by decide) (by decide) (fun _ => rfl) (fun u_136 H locs hw hP hD hS => ?_)
      have hP : va_P (dC, dI) vwCl [(m0, .inr (7, [.int th, .ref m1, .int (nI w), .int (nI h), .int tp, .int ty, .ref m2, .ref m3, .int sf, .int rdg, .int rt, .int (nI rwd), .int (nI rht), .ref m4, .int dx, .int dy, .int p0, .int q0, .int p1, .int q1, .int kp, .ref m5, .ref m6, .int (nI ((sp_rn 15 ((sp_q SW n), wc, wt, k, f)).2.2.2.1)), .int (nI sk), .int (nI tr), .int (nI (co + 1)), .long (lN ((sp_rn 15 ((sp_q SW n), wc, wt, k, f)).1)), .long (lN ((sp_rn 15 ((sp_q SW n), wc, wt, k, f)).2.1)), .int (nI ((sp_rn 15 ((sp_q SW n), wc, wt, k, f)).2.2.1)), .int (nI b)])), (m1, .inl (cI, 188, .inl (fun j => nI (sp_t j)))), (m5, .inl (cI, 16384, .inl (sp_cat (sp_up SW n (sp_nx (SW n) false)) SR))), (m6, .inl (cI, 4200, .inl ((sp_rn 15 ((sp_q SW n), wc, wt, k, f)).2.2.2.2)))] H := hP
      have hD : va_D A [(m0, .inr (7, [.int th, .ref m1, .int (nI w), .int (nI h), .int tp, .int ty, .ref m2, .ref m3, .int sf, .int rdg, .int rt, .int (nI rwd), .int (nI rht), .ref m4, .int dx, .int dy, .int p0, .int q0, .int p1, .int q1, .int kp, .ref m5, .ref m6, .int (nI ((sp_rn 15 ((sp_q SW n), wc, wt, k, f)).2.2.2.1)), .int (nI sk), .int (nI tr), .int (nI (co + 1)), .long (lN ((sp_rn 15 ((sp_q SW n), wc, wt, k, f)).1)), .long (lN ((sp_rn 15 ((sp_q SW n), wc, wt, k, f)).2.1)), .int (nI ((sp_rn 15 ((sp_q SW n), wc, wt, k, f)).2.2.1)), .int (nI b)])), (m1, .inl (cI, 188, .inl (fun j => nI (sp_t j)))), (m5, .inl (cI, 16384, .inl (sp_cat (sp_up SW n (sp_nx (SW n) false)) SR))), (m6, .inl (cI, 4200, .inl ((sp_rn 15 ((sp_q SW n), wc, wt, k, f)).2.2.2.2)))] := hD
      have hP9 : va_P (dC, dI) vwCl ((fun _ : Unit => [(m0, .inr (7, [.int th, .ref m1, .int (nI w), .int (nI h), .int tp, .int ty, .ref m2, .ref m3, .int sf, .int rdg, .int rt, .int (nI rwd), .int (nI rht), .ref m4, .int dx, .int dy, .int p0, .int q0, .int p1, .int q1, .int kp, .ref m5, .ref m6, .int (nI ((sp_wb (wa, wc, wt, k, f) SW n bit).1.2.2.2.1)), .int (nI sk), .int (nI tr), .int (nI (co + 1)), .long (lN ((sp_wb (wa, wc, wt, k, f) SW n bit).1.1)), .long (lN ((sp_wb (wa, wc, wt, k, f) SW n bit).1.2.1)), .int (nI ((sp_wb (wa, wc, wt, k, f) SW n bit).1.2.2.1)), .int (nI b)])), (m1, .inl (cI, 188, .inl (fun j => nI (sp_t j)))), (m5, .inl (cI, 16384, .inl (sp_cat ((sp_wb (wa, wc, wt, k, f) SW n bit).2) SR))), (m6, .inl (cI, 4200, .inl ((sp_wb (wa, wc, wt, k, f) SW n bit).1.2.2.2.2)))]) ()) H := by
        rw [sp_wb_5 (by rw [nI_eq (by omega) (by omega)] at c_35; exact c_35) (by rw [lg_cmp_ge, pk_lLE (by omega) (by omega)] at c_91; omega)]
        exact hP
      have hD9 : va_D A ((fun _ : Unit => [(m0, .inr (7, [.int th, .ref m1, .int (nI w), .int (nI h), .int tp, .int ty, .ref m2, .ref m3, .int sf, .int rdg, .int rt, .int (nI rwd), .int (nI rht), .ref m4, .int dx, .int dy, .int p0, .int q0, .int p1, .int q1, .int kp, .ref m5, .ref m6, .int (nI ((sp_wb (wa, wc, wt, k, f) SW n bit).1.2.2.2.1)), .int (nI sk), .int (nI tr), .int (nI (co + 1)), .long (lN ((sp_wb (wa, wc, wt, k, f) SW n bit).1.1)), .long (lN ((sp_wb (wa, wc, wt, k, f) SW n bit).1.2.1)), .int (nI ((sp_wb (wa, wc, wt, k, f) SW n bit).1.2.2.1)), .int (nI b)])), (m1, .inl (cI, 188, .inl (fun j => nI (sp_t j)))), (m5, .inl (cI, 16384, .inl (sp_cat ((sp_wb (wa, wc, wt, k, f) SW n bit).2) SR))), (m6, .inl (cI, 4200, .inl ((sp_wb (wa, wc, wt, k, f) SW n bit).1.2.2.2.2)))]) ()) := by
        rw [sp_wb_5 (by rw [nI_eq (by omega) (by omega)] at c_35; exact c_35) (by rw [lg_cmp_ge, pk_lLE (by omega) (by omega)] at c_91; omega)]
        exact hD
      exact W.vret hx hb hr (fun t ht hW => ⟨⟨(), rfl, trivial, by rw [ht]; exact hP9, va_K.moved hW.alike hK, hD9⟩, hS.F ht⟩) hS.2.2 dX8_write_139
    · refine lv_iconst (v := 1) hx hb dX8_write_94 (by decide) ?_
      refine lv_goto (tgt := 99) hx hb dX8_write_95 (by decide) ?_
      refine lv_istore (lv' := [(5, .int 1), (4, .int 0), (3, .int (nI (sp_q SW n))), (0, .ref m0), (1, .int (nI n)), (2, .int (nI bit))]) hx hb dX8_write_99 hl (by decide) rfl (fun ls hl => ?_)
      refine lv_iload hx hb dX8_write_101 (lv_at hl 1 rfl) ?_
      refine lv_iload hx hb dX8_write_103 (lv_at hl 0 rfl) ?_
      refine lv_icmp_ne (tgt := 117) hx hb dX8_write_105 (by decide) (fun _ => ?_) (fun c9 => absurd c9 (by decide))
      have hlt9 : wa - sp_q SW n < 32768 := by rw [lg_cmp_ge, pk_lLE (by omega) (by omega)] at c_91; omega
      refine lv_aload_n hx hb dX8_write_117 rfl (lv_at hl 3 rfl) ?_
      refine lv_aload_n hx hb dX8_write_118 rfl (lv_at hl 3 rfl) ?_
      refine va_get (D := (dC, dI)) (ci := 7) (v := .long (lN wc)) (C := RX8) (T := TX8) (N := 31) hx hb hts hiX8 hown hK hP 0 rfl rfl 28 (by decide) (hts (.fieldLink RX8 107 "RefineRegionsModel" "c" "J") (by decide +kernel)) (fun _ h9 => h9) rfl dX8_write_119 ?_
      refine lv_iload_n hx hb dX8_write_122 rfl (lv_at hl 2 rfl) ?_
      refine lv_i2l (v := (nI (sp_q SW n)).toInt64) hx hb dX8_write_123 rfl ?_
      refine hw_l (y := lN (sp_q SW n)) (nI_l (by omega)) ?_
      refine lv_ladd hx hb dX8_write_124 ?_
      refine hw_l (y := lN (wc + sp_q SW n)) (lN_add _ _) ?_
      refine va_put (D := (dC, dI)) (ci := 7) (v := .long (lN (wc + sp_q SW n))) (ty := .long) (C := RX8) (T := TX8) (N := 31) hx hb hts hiX8 tyX8 tyX8_ok nmX8 hown hK hP hD hS 0 rfl rfl 28 (by decide) (hts (.fieldLink RX8 107 "RefineRegionsModel" "c" "J") (by decide +kernel)) (fun _ h9 => h9) rfl (by decide +kernel) rfl rfl (Nat.le_of_ble_eq_true rfl) dX8_write_125 (fun H locs hP hD hS => ?_)
      have hP : va_P (dC, dI) vwCl [(m0, .inr (7, [.int th, .ref m1, .int (nI w), .int (nI h), .int tp, .int ty, .ref m2, .ref m3, .int sf, .int rdg, .int rt, .int (nI rwd), .int (nI rht), .ref m4, .int dx, .int dy, .int p0, .int q0, .int p1, .int q1, .int kp, .ref m5, .ref m6, .int (nI k), .int (nI sk), .int (nI tr), .int (nI (co + 1)), .long (lN (wa - sp_q SW n)), .long (lN (wc + sp_q SW n)), .int (nI wt), .int (nI b)])), (m1, .inl (cI, 188, .inl (fun j => nI (sp_t j)))), (m5, .inl (cI, 16384, .inl (sp_cat SW SR))), (m6, .inl (cI, 4200, .inl f))] H := hP
      have hD : va_D A [(m0, .inr (7, [.int th, .ref m1, .int (nI w), .int (nI h), .int tp, .int ty, .ref m2, .ref m3, .int sf, .int rdg, .int rt, .int (nI rwd), .int (nI rht), .ref m4, .int dx, .int dy, .int p0, .int q0, .int p1, .int q1, .int kp, .ref m5, .ref m6, .int (nI k), .int (nI sk), .int (nI tr), .int (nI (co + 1)), .long (lN (wa - sp_q SW n)), .long (lN (wc + sp_q SW n)), .int (nI wt), .int (nI b)])), (m1, .inl (cI, 188, .inl (fun j => nI (sp_t j)))), (m5, .inl (cI, 16384, .inl (sp_cat SW SR))), (m6, .inl (cI, 4200, .inl f))] := hD
      refine lv_aload_n hx hb dX8_write_128 rfl (lv_at hl 3 rfl) ?_
      refine lv_iload_n hx hb dX8_write_129 rfl (lv_at hl 4 rfl) ?_
      refine lv_iload hx hb dX8_write_130 (lv_at hl 1 rfl) ?_
      refine hw_callv (wr := [(m6, .inl (cI, 4200, .inl f))]) (w2 := fun _ : Unit => [(m0, .inr (7, [.int th, .ref m1, .int (nI w), .int (nI h), .int tp, .int ty, .ref m2, .ref m3, .int sf, .int rdg, .int rt, .int (nI rwd), .int (nI rht), .ref m4, .int dx, .int dy, .int p0, .int q0, .int p1, .int q1, .int kp, .ref m5, .ref m6, .int (nI k), .int (nI sk), .int (nI tr), .int (nI (co + 1)), .long (lN (wa - sp_q SW n)), .long (lN (wc + sp_q SW n)), .int (nI wt), .int (nI b)])), (m1, .inl (cI, 188, .inl (fun j => nI (sp_t j)))), (m5, .inl (cI, 16384, .inl (sp_cat (sp_up SW n (sp_nx (SW n) false)) SR))), (m6, .inl (cI, 4200, .inl f))]) (va_runV (As := [.int (nI n), .int 0]) (rest := []) ⟨hx, hb, hml, hown, hts⟩ (c_X8_step_w_false l dC dI cI cZ cJ m0 m1 m2 m3 m4 m5 m6 th tp ty sf rdg rt dx dy p0 q0 p1 q1 kp w h rwd rht k sk tr (co + 1) b (lN (wa - sp_q SW n)) (lN (wc + sp_q SW n)) (nI wt) SW SR n (hS94) (hn0) H.size) (cwV 2 hts gX8_write_X8_step rfl rfl rfl (by decide +kernel) ⟨Nat.le_of_ble_eq_true rfl, Nat.le_of_ble_eq_true rfl⟩) (hw_preV hP hD hS hA hk [0, 1, 2] (by decide) rfl (ci := 7) (q0 := 0) rfl rfl) rfl rfl hl.1 rfl (lv_room (Nat.le_of_ble_eq_true rfl)) dX8_write_132 ⟨Nat.le_of_ble_eq_true rfl, Nat.le_of_ble_eq_true rfl⟩) hP hD hS hA [0, 1, 2] [3] [1, 2, 3, 0] rfl rfl (by decide) (by decide) (by decide) (fun _ => rfl) (fun u_132_2 H locs hw hP hD hS => ?_)
      have hP : va_P (dC, dI) vwCl [(m0, .inr (7, [.int th, .ref m1, .int (nI w), .int (nI h), .int tp, .int ty, .ref m2, .ref m3, .int sf, .int rdg, .int rt, .int (nI rwd), .int (nI rht), .ref m4, .int dx, .int dy, .int p0, .int q0, .int p1, .int q1, .int kp, .ref m5, .ref m6, .int (nI k), .int (nI sk), .int (nI tr), .int (nI (co + 1)), .long (lN (wa - sp_q SW n)), .long (lN (wc + sp_q SW n)), .int (nI wt), .int (nI b)])), (m1, .inl (cI, 188, .inl (fun j => nI (sp_t j)))), (m5, .inl (cI, 16384, .inl (sp_cat (sp_up SW n (sp_nx (SW n) false)) SR))), (m6, .inl (cI, 4200, .inl f))] H := hP
      have hD : va_D A [(m0, .inr (7, [.int th, .ref m1, .int (nI w), .int (nI h), .int tp, .int ty, .ref m2, .ref m3, .int sf, .int rdg, .int rt, .int (nI rwd), .int (nI rht), .ref m4, .int dx, .int dy, .int p0, .int q0, .int p1, .int q1, .int kp, .ref m5, .ref m6, .int (nI k), .int (nI sk), .int (nI tr), .int (nI (co + 1)), .long (lN (wa - sp_q SW n)), .long (lN (wc + sp_q SW n)), .int (nI wt), .int (nI b)])), (m1, .inl (cI, 188, .inl (fun j => nI (sp_t j)))), (m5, .inl (cI, 16384, .inl (sp_cat (sp_up SW n (sp_nx (SW n) false)) SR))), (m6, .inl (cI, 4200, .inl f))] := hD
      refine lv_aload_n hx hb dX8_write_135 rfl (lv_at hl 3 rfl) ?_
      refine hw_callv (wr := [(m1, .inl (cI, 188, .inl (fun j => nI (sp_t j)))), (m5, .inl (cI, 16384, .inl (sp_cat (sp_up SW n (sp_nx (SW n) false)) SR)))]) (w2 := fun _ : Unit => [(m0, .inr (7, [.int th, .ref m1, .int (nI w), .int (nI h), .int tp, .int ty, .ref m2, .ref m3, .int sf, .int rdg, .int rt, .int (nI rwd), .int (nI rht), .ref m4, .int dx, .int dy, .int p0, .int q0, .int p1, .int q1, .int kp, .ref m5, .ref m6, .int (nI ((sp_rn 15 ((wa - sp_q SW n), (wc + sp_q SW n), wt, k, f)).2.2.2.1)), .int (nI sk), .int (nI tr), .int (nI (co + 1)), .long (lN ((sp_rn 15 ((wa - sp_q SW n), (wc + sp_q SW n), wt, k, f)).1)), .long (lN ((sp_rn 15 ((wa - sp_q SW n), (wc + sp_q SW n), wt, k, f)).2.1)), .int (nI ((sp_rn 15 ((wa - sp_q SW n), (wc + sp_q SW n), wt, k, f)).2.2.1)), .int (nI b)])), (m1, .inl (cI, 188, .inl (fun j => nI (sp_t j)))), (m5, .inl (cI, 16384, .inl (sp_cat (sp_up SW n (sp_nx (SW n) false)) SR))), (m6, .inl (cI, 4200, .inl ((sp_rn 15 ((wa - sp_q SW n), (wc + sp_q SW n), wt, k, f)).2.2.2.2)))]) (va_runV (As := []) (rest := []) ⟨hx, hb, hml, hown, hts⟩ (c_X8_renewWriting l dC dI cI cZ cJ m0 m1 m2 m3 m4 m5 m6 th tp ty sf rdg rt dx dy p0 q0 p1 q1 kp w h rwd rht k sk tr (co + 1) b f (wa - sp_q SW n) (wc + sp_q SW n) wt K (sp_WI_hi hI (by omega)) (hlt9) (hK0) H.size) (cwV 0 hts gX8_write_X8_renewWriting rfl rfl rfl (by decide +kernel) ⟨Nat.le_of_ble_eq_true rfl, Nat.le_of_ble_eq_true rfl⟩) (hw_preV hP hD hS hA hk [0, 3] (by decide) rfl (ci := 7) (q0 := 0) rfl rfl) rfl rfl hl.1 rfl (lv_room (Nat.le_of_ble_eq_true rfl)) dX8_write_136 ⟨Nat.le_of_ble_eq_true rfl, Nat.le_of_ble_eq_true rfl⟩) hP hD hS hA [0, 3] [1, 2] [2, 0, 1, 3] rfl rfl (by decide) (by decide) (by decide) (fun _ => rfl) (fun u_136_2 H locs hw hP hD hS => ?_)
      have hP : va_P (dC, dI) vwCl [(m0, .inr (7, [.int th, .ref m1, .int (nI w), .int (nI h), .int tp, .int ty, .ref m2, .ref m3, .int sf, .int rdg, .int rt, .int (nI rwd), .int (nI rht), .ref m4, .int dx, .int dy, .int p0, .int q0, .int p1, .int q1, .int kp, .ref m5, .ref m6, .int (nI ((sp_rn 15 ((wa - sp_q SW n), (wc + sp_q SW n), wt, k, f)).2.2.2.1)), .int (nI sk), .int (nI tr), .int (nI (co + 1)), .long (lN ((sp_rn 15 ((wa - sp_q SW n), (wc + sp_q SW n), wt, k, f)).1)), .long (lN ((sp_rn 15 ((wa - sp_q SW n), (wc + sp_q SW n), wt, k, f)).2.1)), .int (nI ((sp_rn 15 ((wa - sp_q SW n), (wc + sp_q SW n), wt, k, f)).2.2.1)), .int (nI b)])), (m1, .inl (cI, 188, .inl (fun j => nI (sp_t j)))), (m5, .inl (cI, 16384, .inl (sp_cat (sp_up SW n (sp_nx (SW n) false)) SR))), (m6, .inl (cI, 4200, .inl ((sp_rn 15 ((wa - sp_q SW n), (wc + sp_q SW n), wt, k, f)).2.2.2.2)))] H := hP
      have hD : va_D A [(m0, .inr (7, [.int th, .ref m1, .int (nI w), .int (nI h), .int tp, .int ty, .ref m2, .ref m3, .int sf, .int rdg, .int rt, .int (nI rwd), .int (nI rht), .ref m4, .int dx, .int dy, .int p0, .int q0, .int p1, .int q1, .int kp, .ref m5, .ref m6, .int (nI ((sp_rn 15 ((wa - sp_q SW n), (wc + sp_q SW n), wt, k, f)).2.2.2.1)), .int (nI sk), .int (nI tr), .int (nI (co + 1)), .long (lN ((sp_rn 15 ((wa - sp_q SW n), (wc + sp_q SW n), wt, k, f)).1)), .long (lN ((sp_rn 15 ((wa - sp_q SW n), (wc + sp_q SW n), wt, k, f)).2.1)), .int (nI ((sp_rn 15 ((wa - sp_q SW n), (wc + sp_q SW n), wt, k, f)).2.2.1)), .int (nI b)])), (m1, .inl (cI, 188, .inl (fun j => nI (sp_t j)))), (m5, .inl (cI, 16384, .inl (sp_cat (sp_up SW n (sp_nx (SW n) false)) SR))), (m6, .inl (cI, 4200, .inl ((sp_rn 15 ((wa - sp_q SW n), (wc + sp_q SW n), wt, k, f)).2.2.2.2)))] := hD
      have hP9 : va_P (dC, dI) vwCl ((fun _ : Unit => [(m0, .inr (7, [.int th, .ref m1, .int (nI w), .int (nI h), .int tp, .int ty, .ref m2, .ref m3, .int sf, .int rdg, .int rt, .int (nI rwd), .int (nI rht), .ref m4, .int dx, .int dy, .int p0, .int q0, .int p1, .int q1, .int kp, .ref m5, .ref m6, .int (nI ((sp_wb (wa, wc, wt, k, f) SW n bit).1.2.2.2.1)), .int (nI sk), .int (nI tr), .int (nI (co + 1)), .long (lN ((sp_wb (wa, wc, wt, k, f) SW n bit).1.1)), .long (lN ((sp_wb (wa, wc, wt, k, f) SW n bit).1.2.1)), .int (nI ((sp_wb (wa, wc, wt, k, f) SW n bit).1.2.2.1)), .int (nI b)])), (m1, .inl (cI, 188, .inl (fun j => nI (sp_t j)))), (m5, .inl (cI, 16384, .inl (sp_cat ((sp_wb (wa, wc, wt, k, f) SW n bit).2) SR))), (m6, .inl (cI, 4200, .inl ((sp_wb (wa, wc, wt, k, f) SW n bit).1.2.2.2.2)))]) ()) H := by
        rw [sp_wb_4 (by rw [nI_eq (by omega) (by omega)] at c_35; exact c_35) (by rw [lg_cmp_ge, pk_lLE (by omega) (by omega)] at c_91; omega)]
        exact hP
      have hD9 : va_D A ((fun _ : Unit => [(m0, .inr (7, [.int th, .ref m1, .int (nI w), .int (nI h), .int tp, .int ty, .ref m2, .ref m3, .int sf, .int rdg, .int rt, .int (nI rwd), .int (nI rht), .ref m4, .int dx, .int dy, .int p0, .int q0, .int p1, .int q1, .int kp, .ref m5, .ref m6, .int (nI ((sp_wb (wa, wc, wt, k, f) SW n bit).1.2.2.2.1)), .int (nI sk), .int (nI tr), .int (nI (co + 1)), .long (lN ((sp_wb (wa, wc, wt, k, f) SW n bit).1.1)), .long (lN ((sp_wb (wa, wc, wt, k, f) SW n bit).1.2.1)), .int (nI ((sp_wb (wa, wc, wt, k, f) SW n bit).1.2.2.1)), .int (nI b)])), (m1, .inl (cI, 188, .inl (fun j => nI (sp_t j)))), (m5, .inl (cI, 16384, .inl (sp_cat ((sp_wb (wa, wc, wt, k, f) SW n bit).2) SR))), (m6, .inl (cI, 4200, .inl ((sp_wb (wa, wc, wt, k, f) SW n bit).1.2.2.2.2)))]) ()) := by
        rw [sp_wb_4 (by rw [nI_eq (by omega) (by omega)] at c_35; exact c_35) (by rw [lg_cmp_ge, pk_lLE (by omega) (by omega)] at c_91; omega)]
        exact hD
      exact W.vret hx hb hr (fun t ht hW => ⟨⟨(), rfl, trivial, by rw [ht]; exact hP9, va_K.moved hW.alike hK, hD9⟩, hS.F ht⟩) hS.2.2 dX8_write_139
  · refine lv_iconst (v := 1) hx hb dX8_write_38 (by decide) ?_
    refine lv_goto (tgt := 43) hx hb dX8_write_39 (by decide) ?_
    refine lv_istore (lv' := [(4, .int 1), (3, .int (nI (sp_q SW n))), (0, .ref m0), (1, .int (nI n)), (2, .int (nI bit))]) hx hb dX8_write_43 hl (by decide) rfl (fun ls hl => ?_)
    refine lv_aload_n hx hb dX8_write_45 rfl (lv_at hl 2 rfl) ?_
    refine lv_aload_n hx hb dX8_write_46 rfl (lv_at hl 2 rfl) ?_
    refine va_get (D := (dC, dI)) (ci := 7) (v := .long (lN wa)) (C := RX8) (T := TX8) (N := 31) hx hb hts hiX8 hown hK hP 0 rfl rfl 27 (by decide) (hts (.fieldLink RX8 126 "RefineRegionsModel" "a" "J") (by decide +kernel)) (fun _ h9 => h9) rfl dX8_write_47 ?_
    refine lv_iload_n hx hb dX8_write_50 rfl (lv_at hl 1 rfl) ?_
    refine lv_i2l (v := (nI (sp_q SW n)).toInt64) hx hb dX8_write_51 rfl ?_
    refine hw_l (y := lN (sp_q SW n)) (nI_l (by omega)) ?_
    refine lv_lsub hx hb dX8_write_52 ?_
    refine hw_l (y := lN (wa - sp_q SW n)) (lN_sub (by omega)) ?_
    refine va_put (D := (dC, dI)) (ci := 7) (v := .long (lN (wa - sp_q SW n))) (ty := .long) (C := RX8) (T := TX8) (N := 31) hx hb hts hiX8 tyX8 tyX8_ok nmX8 hown hK hP hD hS 0 rfl rfl 27 (by decide) (hts (.fieldLink RX8 126 "RefineRegionsModel" "a" "J") (by decide +kernel)) (fun _ h9 => h9) rfl (by decide +kernel) rfl rfl (Nat.le_of_ble_eq_true rfl) dX8_write_53 (fun H locs hP hD hS => ?_)
    have hP : va_P (dC, dI) vwCl [(m0, .inr (7, [.int th, .ref m1, .int (nI w), .int (nI h), .int tp, .int ty, .ref m2, .ref m3, .int sf, .int rdg, .int rt, .int (nI rwd), .int (nI rht), .ref m4, .int dx, .int dy, .int p0, .int q0, .int p1, .int q1, .int kp, .ref m5, .ref m6, .int (nI k), .int (nI sk), .int (nI tr), .int (nI (co + 1)), .long (lN (wa - sp_q SW n)), .long (lN wc), .int (nI wt), .int (nI b)])), (m1, .inl (cI, 188, .inl (fun j => nI (sp_t j)))), (m5, .inl (cI, 16384, .inl (sp_cat SW SR))), (m6, .inl (cI, 4200, .inl f))] H := hP
    have hD : va_D A [(m0, .inr (7, [.int th, .ref m1, .int (nI w), .int (nI h), .int tp, .int ty, .ref m2, .ref m3, .int sf, .int rdg, .int rt, .int (nI rwd), .int (nI rht), .ref m4, .int dx, .int dy, .int p0, .int q0, .int p1, .int q1, .int kp, .ref m5, .ref m6, .int (nI k), .int (nI sk), .int (nI tr), .int (nI (co + 1)), .long (lN (wa - sp_q SW n)), .long (lN wc), .int (nI wt), .int (nI b)])), (m1, .inl (cI, 188, .inl (fun j => nI (sp_t j)))), (m5, .inl (cI, 16384, .inl (sp_cat SW SR))), (m6, .inl (cI, 4200, .inl f))] := hD
    refine lv_iload hx hb dX8_write_56 (lv_at hl 0 rfl) ?_
    refine lv_if_eq (tgt := 84) hx hb dX8_write_58 (by decide) (fun c9 => absurd c9 (by decide)) (fun _ => ?_)
    refine lv_aload_n hx hb dX8_write_61 rfl (lv_at hl 2 rfl) ?_
    refine va_get (D := (dC, dI)) (ci := 7) (v := .long (lN (wa - sp_q SW n))) (C := RX8) (T := TX8) (N := 31) hx hb hts hiX8 hown hK hP 0 rfl rfl 27 (by decide) (hts (.fieldLink RX8 126 "RefineRegionsModel" "a" "J") (by decide +kernel)) (fun _ h9 => h9) rfl dX8_write_62 ?_
    refine lv_ldc2 (v := 32768) hx hb hown (hts (.constantLong RX8 132 (32768)) (by decide +kernel)) dX8_write_65 ?_
    refine W.lcmp hx hb dX8_write_68 ?_
    refine lv_if_lt (tgt := 84) hx hb dX8_write_69 (by decide) (fun c_69 => ?_) (fun c_69 => ?_)
    · refine lv_aload_n hx hb dX8_write_84 rfl (lv_at hl 2 rfl) ?_
      refine va_get (D := (dC, dI)) (ci := 7) (v := .long (lN (wa - sp_q SW n))) (C := RX8) (T := TX8) (N := 31) hx hb hts hiX8 hown hK hP 0 rfl rfl 27 (by decide) (hts (.fieldLink RX8 126 "RefineRegionsModel" "a" "J") (by decide +kernel)) (fun _ h9 => h9) rfl dX8_write_85 ?_
      refine lv_iload_n hx hb dX8_write_88 rfl (lv_at hl 1 rfl) ?_
      refine lv_i2l (v := (nI (sp_q SW n)).toInt64) hx hb dX8_write_89 rfl ?_
      refine hw_l (y := lN (sp_q SW n)) (nI_l (by omega)) ?_
      refine W.lcmp hx hb dX8_write_90 ?_
      refine lv_if_ge (tgt := 98) hx hb dX8_write_91 (by decide) (fun c_91 => ?_) (fun c_91 => ?_)
      · refine lv_iconst (v := 0) hx hb dX8_write_98 (by decide) ?_
        refine lv_istore (lv' := [(5, .int 0), (4, .int 1), (3, .int (nI (sp_q SW n))), (0, .ref m0), (1, .int (nI n)), (2, .int (nI bit))]) hx hb dX8_write_99 hl (by decide) rfl (fun ls hl => ?_)
        refine lv_iload hx hb dX8_write_101 (lv_at hl 1 rfl) ?_
        refine lv_iload hx hb dX8_write_103 (lv_at hl 0 rfl) ?_
        refine lv_icmp_ne (tgt := 117) hx hb dX8_write_105 (by decide) (fun _ => ?_) (fun c9 => absurd c9 (by decide))
        have hlt9 : wa - sp_q SW n < 32768 := by rw [lg_cmp_lt, show (32768 : Int64) = lN 32768 from rfl, pk_lLT (by omega) (by omega)] at c_69; exact c_69
        refine lv_aload_n hx hb dX8_write_117 rfl (lv_at hl 3 rfl) ?_
        refine lv_aload_n hx hb dX8_write_118 rfl (lv_at hl 3 rfl) ?_
        refine va_get (D := (dC, dI)) (ci := 7) (v := .long (lN wc)) (C := RX8) (T := TX8) (N := 31) hx hb hts hiX8 hown hK hP 0 rfl rfl 28 (by decide) (hts (.fieldLink RX8 107 "RefineRegionsModel" "c" "J") (by decide +kernel)) (fun _ h9 => h9) rfl dX8_write_119 ?_
        refine lv_iload_n hx hb dX8_write_122 rfl (lv_at hl 2 rfl) ?_
        refine lv_i2l (v := (nI (sp_q SW n)).toInt64) hx hb dX8_write_123 rfl ?_
        refine hw_l (y := lN (sp_q SW n)) (nI_l (by omega)) ?_
        refine lv_ladd hx hb dX8_write_124 ?_
        refine hw_l (y := lN (wc + sp_q SW n)) (lN_add _ _) ?_
        refine va_put (D := (dC, dI)) (ci := 7) (v := .long (lN (wc + sp_q SW n))) (ty := .long) (C := RX8) (T := TX8) (N := 31) hx hb hts hiX8 tyX8 tyX8_ok nmX8 hown hK hP hD hS 0 rfl rfl 28 (by decide) (hts (.fieldLink RX8 107 "RefineRegionsModel" "c" "J") (by decide +kernel)) (fun _ h9 => h9) rfl (by decide +kernel) rfl rfl (Nat.le_of_ble_eq_true rfl) dX8_write_125 (fun H locs hP hD hS => ?_)
        have hP : va_P (dC, dI) vwCl [(m0, .inr (7, [.int th, .ref m1, .int (nI w), .int (nI h), .int tp, .int ty, .ref m2, .ref m3, .int sf, .int rdg, .int rt, .int (nI rwd), .int (nI rht), .ref m4, .int dx, .int dy, .int p0, .int q0, .int p1, .int q1, .int kp, .ref m5, .ref m6, .int (nI k), .int (nI sk), .int (nI tr), .int (nI (co + 1)), .long (lN (wa - sp_q SW n)), .long (lN (wc + sp_q SW n)), .int (nI wt), .int (nI b)])), (m1, .inl (cI, 188, .inl (fun j => nI (sp_t j)))), (m5, .inl (cI, 16384, .inl (sp_cat SW SR))), (m6, .inl (cI, 4200, .inl f))] H := hP
        have hD : va_D A [(m0, .inr (7, [.int th, .ref m1, .int (nI w), .int (nI h), .int tp, .int ty, .ref m2, .ref m3, .int sf, .int rdg, .int rt, .int (nI rwd), .int (nI rht), .ref m4, .int dx, .int dy, .int p0, .int q0, .int p1, .int q1, .int kp, .ref m5, .ref m6, .int (nI k), .int (nI sk), .int (nI tr), .int (nI (co + 1)), .long (lN (wa - sp_q SW n)), .long (lN (wc + sp_q SW n)), .int (nI wt), .int (nI b)])), (m1, .inl (cI, 188, .inl (fun j => nI (sp_t j)))), (m5, .inl (cI, 16384, .inl (sp_cat SW SR))), (m6, .inl (cI, 4200, .inl f))] := hD
        refine lv_aload_n hx hb dX8_write_128 rfl (lv_at hl 3 rfl) ?_
        refine lv_iload_n hx hb dX8_write_129 rfl (lv_at hl 4 rfl) ?_
        refine lv_iload hx hb dX8_write_130 (lv_at hl 1 rfl) ?_
        refine hw_callv (wr := [(m6, .inl (cI, 4200, .inl f))]) (w2 := fun _ : Unit => [(m0, .inr (7, [.int th, .ref m1, .int (nI w), .int (nI h), .int tp, .int ty, .ref m2, .ref m3, .int sf, .int rdg, .int rt, .int (nI rwd), .int (nI rht), .ref m4, .int dx, .int dy, .int p0, .int q0, .int p1, .int q1, .int kp, .ref m5, .ref m6, .int (nI k), .int (nI sk), .int (nI tr), .int (nI (co + 1)), .long (lN (wa - sp_q SW n)), .long (lN (wc + sp_q SW n)), .int (nI wt), .int (nI b)])), (m1, .inl (cI, 188, .inl (fun j => nI (sp_t j)))), (m5, .inl (cI, 16384, .inl (sp_cat (sp_up SW n (sp_nx (SW n) true)) SR))), (m6, .inl (cI, 4200, .inl f))]) (va_runV (As := [.int (nI n), .int 1]) (rest := []) ⟨hx, hb, hml, hown, hts⟩ (c_X8_step_w_true l dC dI cI cZ cJ m0 m1 m2 m3 m4 m5 m6 th tp ty sf rdg rt dx dy p0 q0 p1 q1 kp w h rwd rht k sk tr (co + 1) b (lN (wa - sp_q SW n)) (lN (wc + sp_q SW n)) (nI wt) SW SR n (hS94) (hn0) H.size) (cwV 2 hts gX8_write_X8_step rfl rfl rfl (by decide +kernel) ⟨Nat.le_of_ble_eq_true rfl, Nat.le_of_ble_eq_true rfl⟩) (hw_preV hP hD hS hA hk [0, 1, 2] (by decide) rfl (ci := 7) (q0 := 0) rfl rfl) rfl rfl hl.1 rfl (lv_room (Nat.le_of_ble_eq_true rfl)) dX8_write_132 ⟨Nat.le_of_ble_eq_true rfl, Nat.le_of_ble_eq_true rfl⟩) hP hD hS hA [0, 1, 2] [3] [1, 2, 3, 0] rfl rfl (by decide) (by decide) (by decide) (fun _ => rfl) (fun u_132_3 H locs hw hP hD hS => ?_)
        have hP : va_P (dC, dI) vwCl [(m0, .inr (7, [.int th, .ref m1, .int (nI w), .int (nI h), .int tp, .int ty, .ref m2, .ref m3, .int sf, .int rdg, .int rt, .int (nI rwd), .int (nI rht), .ref m4, .int dx, .int dy, .int p0, .int q0, .int p1, .int q1, .int kp, .ref m5, .ref m6, .int (nI k), .int (nI sk), .int (nI tr), .int (nI (co + 1)), .long (lN (wa - sp_q SW n)), .long (lN (wc + sp_q SW n)), .int (nI wt), .int (nI b)])), (m1, .inl (cI, 188, .inl (fun j => nI (sp_t j)))), (m5, .inl (cI, 16384, .inl (sp_cat (sp_up SW n (sp_nx (SW n) true)) SR))), (m6, .inl (cI, 4200, .inl f))] H := hP
        have hD : va_D A [(m0, .inr (7, [.int th, .ref m1, .int (nI w), .int (nI h), .int tp, .int ty, .ref m2, .ref m3, .int sf, .int rdg, .int rt, .int (nI rwd), .int (nI rht), .ref m4, .int dx, .int dy, .int p0, .int q0, .int p1, .int q1, .int kp, .ref m5, .ref m6, .int (nI k), .int (nI sk), .int (nI tr), .int (nI (co + 1)), .long (lN (wa - sp_q SW n)), .long (lN (wc + sp_q SW n)), .int (nI wt), .int (nI b)])), (m1, .inl (cI, 188, .inl (fun j => nI (sp_t j)))), (m5, .inl (cI, 16384, .inl (sp_cat (sp_up SW n (sp_nx (SW n) true)) SR))), (m6, .inl (cI, 4200, .inl f))] := hD
        refine lv_aload_n hx hb dX8_write_135 rfl (lv_at hl 3 rfl) ?_
        refine hw_callv (wr := [(m1, .inl (cI, 188, .inl (fun j => nI (sp_t j)))), (m5, .inl (cI, 16384, .inl (sp_cat (sp_up SW n (sp_nx (SW n) true)) SR)))]) (w2 := fun _ : Unit => [(m0, .inr (7, [.int th, .ref m1, .int (nI w), .int (nI h), .int tp, .int ty, .ref m2, .ref m3, .int sf, .int rdg, .int rt, .int (nI rwd), .int (nI rht), .ref m4, .int dx, .int dy, .int p0, .int q0, .int p1, .int q1, .int kp, .ref m5, .ref m6, .int (nI ((sp_rn 15 ((wa - sp_q SW n), (wc + sp_q SW n), wt, k, f)).2.2.2.1)), .int (nI sk), .int (nI tr), .int (nI (co + 1)), .long (lN ((sp_rn 15 ((wa - sp_q SW n), (wc + sp_q SW n), wt, k, f)).1)), .long (lN ((sp_rn 15 ((wa - sp_q SW n), (wc + sp_q SW n), wt, k, f)).2.1)), .int (nI ((sp_rn 15 ((wa - sp_q SW n), (wc + sp_q SW n), wt, k, f)).2.2.1)), .int (nI b)])), (m1, .inl (cI, 188, .inl (fun j => nI (sp_t j)))), (m5, .inl (cI, 16384, .inl (sp_cat (sp_up SW n (sp_nx (SW n) true)) SR))), (m6, .inl (cI, 4200, .inl ((sp_rn 15 ((wa - sp_q SW n), (wc + sp_q SW n), wt, k, f)).2.2.2.2)))]) (va_runV (As := []) (rest := []) ⟨hx, hb, hml, hown, hts⟩ (c_X8_renewWriting l dC dI cI cZ cJ m0 m1 m2 m3 m4 m5 m6 th tp ty sf rdg rt dx dy p0 q0 p1 q1 kp w h rwd rht k sk tr (co + 1) b f (wa - sp_q SW n) (wc + sp_q SW n) wt K (sp_WI_hi hI (by omega)) (hlt9) (hK0) H.size) (cwV 0 hts gX8_write_X8_renewWriting rfl rfl rfl (by decide +kernel) ⟨Nat.le_of_ble_eq_true rfl, Nat.le_of_ble_eq_true rfl⟩) (hw_preV hP hD hS hA hk [0, 3] (by decide) rfl (ci := 7) (q0 := 0) rfl rfl) rfl rfl hl.1 rfl (lv_room (Nat.le_of_ble_eq_true rfl)) dX8_write_136 ⟨Nat.le_of_ble_eq_true rfl, Nat.le_of_ble_eq_true rfl⟩) hP hD hS hA [0, 3] [1, 2] [2, 0, 1, 3] rfl rfl (by decide) (by decide) (by decide) (fun _ => rfl) (fun u_136_3 H locs hw hP hD hS => ?_)
        have hP : va_P (dC, dI) vwCl [(m0, .inr (7, [.int th, .ref m1, .int (nI w), .int (nI h), .int tp, .int ty, .ref m2, .ref m3, .int sf, .int rdg, .int rt, .int (nI rwd), .int (nI rht), .ref m4, .int dx, .int dy, .int p0, .int q0, .int p1, .int q1, .int kp, .ref m5, .ref m6, .int (nI ((sp_rn 15 ((wa - sp_q SW n), (wc + sp_q SW n), wt, k, f)).2.2.2.1)), .int (nI sk), .int (nI tr), .int (nI (co + 1)), .long (lN ((sp_rn 15 ((wa - sp_q SW n), (wc + sp_q SW n), wt, k, f)).1)), .long (lN ((sp_rn 15 ((wa - sp_q SW n), (wc + sp_q SW n), wt, k, f)).2.1)), .int (nI ((sp_rn 15 ((wa - sp_q SW n), (wc + sp_q SW n), wt, k, f)).2.2.1)), .int (nI b)])), (m1, .inl (cI, 188, .inl (fun j => nI (sp_t j)))), (m5, .inl (cI, 16384, .inl (sp_cat (sp_up SW n (sp_nx (SW n) true)) SR))), (m6, .inl (cI, 4200, .inl ((sp_rn 15 ((wa - sp_q SW n), (wc + sp_q SW n), wt, k, f)).2.2.2.2)))] H := hP
        have hD : va_D A [(m0, .inr (7, [.int th, .ref m1, .int (nI w), .int (nI h), .int tp, .int ty, .ref m2, .ref m3, .int sf, .int rdg, .int rt, .int (nI rwd), .int (nI rht), .ref m4, .int dx, .int dy, .int p0, .int q0, .int p1, .int q1, .int kp, .ref m5, .ref m6, .int (nI ((sp_rn 15 ((wa - sp_q SW n), (wc + sp_q SW n), wt, k, f)).2.2.2.1)), .int (nI sk), .int (nI tr), .int (nI (co + 1)), .long (lN ((sp_rn 15 ((wa - sp_q SW n), (wc + sp_q SW n), wt, k, f)).1)), .long (lN ((sp_rn 15 ((wa - sp_q SW n), (wc + sp_q SW n), wt, k, f)).2.1)), .int (nI ((sp_rn 15 ((wa - sp_q SW n), (wc + sp_q SW n), wt, k, f)).2.2.1)), .int (nI b)])), (m1, .inl (cI, 188, .inl (fun j => nI (sp_t j)))), (m5, .inl (cI, 16384, .inl (sp_cat (sp_up SW n (sp_nx (SW n) true)) SR))), (m6, .inl (cI, 4200, .inl ((sp_rn 15 ((wa - sp_q SW n), (wc + sp_q SW n), wt, k, f)).2.2.2.2)))] := hD
        have hP9 : va_P (dC, dI) vwCl ((fun _ : Unit => [(m0, .inr (7, [.int th, .ref m1, .int (nI w), .int (nI h), .int tp, .int ty, .ref m2, .ref m3, .int sf, .int rdg, .int rt, .int (nI rwd), .int (nI rht), .ref m4, .int dx, .int dy, .int p0, .int q0, .int p1, .int q1, .int kp, .ref m5, .ref m6, .int (nI ((sp_wb (wa, wc, wt, k, f) SW n bit).1.2.2.2.1)), .int (nI sk), .int (nI tr), .int (nI (co + 1)), .long (lN ((sp_wb (wa, wc, wt, k, f) SW n bit).1.1)), .long (lN ((sp_wb (wa, wc, wt, k, f) SW n bit).1.2.1)), .int (nI ((sp_wb (wa, wc, wt, k, f) SW n bit).1.2.2.1)), .int (nI b)])), (m1, .inl (cI, 188, .inl (fun j => nI (sp_t j)))), (m5, .inl (cI, 16384, .inl (sp_cat ((sp_wb (wa, wc, wt, k, f) SW n bit).2) SR))), (m6, .inl (cI, 4200, .inl ((sp_wb (wa, wc, wt, k, f) SW n bit).1.2.2.2.2)))]) ()) H := by
          rw [sp_wb_3 (by rw [nI_eq (by omega) (by omega)] at c_35; exact c_35) (by rw [lg_cmp_lt, show (32768 : Int64) = lN 32768 from rfl, pk_lLT (by omega) (by omega)] at c_69; omega) (by rw [lg_cmp_ge, pk_lLE (by omega) (by omega)] at c_91; omega)]
          exact hP
        have hD9 : va_D A ((fun _ : Unit => [(m0, .inr (7, [.int th, .ref m1, .int (nI w), .int (nI h), .int tp, .int ty, .ref m2, .ref m3, .int sf, .int rdg, .int rt, .int (nI rwd), .int (nI rht), .ref m4, .int dx, .int dy, .int p0, .int q0, .int p1, .int q1, .int kp, .ref m5, .ref m6, .int (nI ((sp_wb (wa, wc, wt, k, f) SW n bit).1.2.2.2.1)), .int (nI sk), .int (nI tr), .int (nI (co + 1)), .long (lN ((sp_wb (wa, wc, wt, k, f) SW n bit).1.1)), .long (lN ((sp_wb (wa, wc, wt, k, f) SW n bit).1.2.1)), .int (nI ((sp_wb (wa, wc, wt, k, f) SW n bit).1.2.2.1)), .int (nI b)])), (m1, .inl (cI, 188, .inl (fun j => nI (sp_t j)))), (m5, .inl (cI, 16384, .inl (sp_cat ((sp_wb (wa, wc, wt, k, f) SW n bit).2) SR))), (m6, .inl (cI, 4200, .inl ((sp_wb (wa, wc, wt, k, f) SW n bit).1.2.2.2.2)))]) ()) := by
          rw [sp_wb_3 (by rw [nI_eq (by omega) (by omega)] at c_35; exact c_35) (by rw [lg_cmp_lt, show (32768 : Int64) = lN 32768 from rfl, pk_lLT (by omega) (by omega)] at c_69; omega) (by rw [lg_cmp_ge, pk_lLE (by omega) (by omega)] at c_91; omega)]
          exact hD
        exact W.vret hx hb hr (fun t ht hW => ⟨⟨(), rfl, trivial, by rw [ht]; exact hP9, va_K.moved hW.alike hK, hD9⟩, hS.F ht⟩) hS.2.2 dX8_write_139
      · refine lv_iconst (v := 1) hx hb dX8_write_94 (by decide) ?_
        refine lv_goto (tgt := 99) hx hb dX8_write_95 (by decide) ?_
        refine lv_istore (lv' := [(5, .int 1), (4, .int 1), (3, .int (nI (sp_q SW n))), (0, .ref m0), (1, .int (nI n)), (2, .int (nI bit))]) hx hb dX8_write_99 hl (by decide) rfl (fun ls hl => ?_)
        refine lv_iload hx hb dX8_write_101 (lv_at hl 1 rfl) ?_
        refine lv_iload hx hb dX8_write_103 (lv_at hl 0 rfl) ?_
        refine lv_icmp_ne (tgt := 117) hx hb dX8_write_105 (by decide) (fun c9 => absurd c9 (by decide)) (fun _ => ?_)
        refine lv_aload_n hx hb dX8_write_108 rfl (lv_at hl 3 rfl) ?_
        refine lv_iload_n hx hb dX8_write_109 rfl (lv_at hl 2 rfl) ?_
        refine lv_i2l (v := (nI (sp_q SW n)).toInt64) hx hb dX8_write_110 rfl ?_
        refine hw_l (y := lN (sp_q SW n)) (nI_l (by omega)) ?_
        refine va_put (D := (dC, dI)) (ci := 7) (v := .long (lN (sp_q SW n))) (ty := .long) (C := RX8) (T := TX8) (N := 31) hx hb hts hiX8 tyX8 tyX8_ok nmX8 hown hK hP hD hS 0 rfl rfl 27 (by decide) (hts (.fieldLink RX8 126 "RefineRegionsModel" "a" "J") (by decide +kernel)) (fun _ h9 => h9) rfl (by decide +kernel) rfl rfl (Nat.le_of_ble_eq_true rfl) dX8_write_111 (fun H locs hP hD hS => ?_)
        have hP : va_P (dC, dI) vwCl [(m0, .inr (7, [.int th, .ref m1, .int (nI w), .int (nI h), .int tp, .int ty, .ref m2, .ref m3, .int sf, .int rdg, .int rt, .int (nI rwd), .int (nI rht), .ref m4, .int dx, .int dy, .int p0, .int q0, .int p1, .int q1, .int kp, .ref m5, .ref m6, .int (nI k), .int (nI sk), .int (nI tr), .int (nI (co + 1)), .long (lN (sp_q SW n)), .long (lN wc), .int (nI wt), .int (nI b)])), (m1, .inl (cI, 188, .inl (fun j => nI (sp_t j)))), (m5, .inl (cI, 16384, .inl (sp_cat SW SR))), (m6, .inl (cI, 4200, .inl f))] H := hP
        have hD : va_D A [(m0, .inr (7, [.int th, .ref m1, .int (nI w), .int (nI h), .int tp, .int ty, .ref m2, .ref m3, .int sf, .int rdg, .int rt, .int (nI rwd), .int (nI rht), .ref m4, .int dx, .int dy, .int p0, .int q0, .int p1, .int q1, .int kp, .ref m5, .ref m6, .int (nI k), .int (nI sk), .int (nI tr), .int (nI (co + 1)), .long (lN (sp_q SW n)), .long (lN wc), .int (nI wt), .int (nI b)])), (m1, .inl (cI, 188, .inl (fun j => nI (sp_t j)))), (m5, .inl (cI, 16384, .inl (sp_cat SW SR))), (m6, .inl (cI, 4200, .inl f))] := hD
        refine lv_goto (tgt := 128) hx hb dX8_write_114 (by decide) ?_
        refine lv_aload_n hx hb dX8_write_128 rfl (lv_at hl 3 rfl) ?_
        refine lv_iload_n hx hb dX8_write_129 rfl (lv_at hl 4 rfl) ?_
        refine lv_iload hx hb dX8_write_130 (lv_at hl 1 rfl) ?_
        refine hw_callv (wr := [(m6, .inl (cI, 4200, .inl f))]) (w2 := fun _ : Unit => [(m0, .inr (7, [.int th, .ref m1, .int (nI w), .int (nI h), .int tp, .int ty, .ref m2, .ref m3, .int sf, .int rdg, .int rt, .int (nI rwd), .int (nI rht), .ref m4, .int dx, .int dy, .int p0, .int q0, .int p1, .int q1, .int kp, .ref m5, .ref m6, .int (nI k), .int (nI sk), .int (nI tr), .int (nI (co + 1)), .long (lN (sp_q SW n)), .long (lN wc), .int (nI wt), .int (nI b)])), (m1, .inl (cI, 188, .inl (fun j => nI (sp_t j)))), (m5, .inl (cI, 16384, .inl (sp_cat (sp_up SW n (sp_nx (SW n) true)) SR))), (m6, .inl (cI, 4200, .inl f))]) (va_runV (As := [.int (nI n), .int 1]) (rest := []) ⟨hx, hb, hml, hown, hts⟩ (c_X8_step_w_true l dC dI cI cZ cJ m0 m1 m2 m3 m4 m5 m6 th tp ty sf rdg rt dx dy p0 q0 p1 q1 kp w h rwd rht k sk tr (co + 1) b (lN (sp_q SW n)) (lN wc) (nI wt) SW SR n (hS94) (hn0) H.size) (cwV 2 hts gX8_write_X8_step rfl rfl rfl (by decide +kernel) ⟨Nat.le_of_ble_eq_true rfl, Nat.le_of_ble_eq_true rfl⟩) (hw_preV hP hD hS hA hk [0, 1, 2] (by decide) rfl (ci := 7) (q0 := 0) rfl rfl) rfl rfl hl.1 rfl (lv_room (Nat.le_of_ble_eq_true rfl)) dX8_write_132 ⟨Nat.le_of_ble_eq_true rfl, Nat.le_of_ble_eq_true rfl⟩) hP hD hS hA [0, 1, 2] [3] [1, 2, 3, 0] rfl rfl (by decide) (by decide) (by decide) (fun _ => rfl) (fun u_132_4 H locs hw hP hD hS => ?_)
        have hP : va_P (dC, dI) vwCl [(m0, .inr (7, [.int th, .ref m1, .int (nI w), .int (nI h), .int tp, .int ty, .ref m2, .ref m3, .int sf, .int rdg, .int rt, .int (nI rwd), .int (nI rht), .ref m4, .int dx, .int dy, .int p0, .int q0, .int p1, .int q1, .int kp, .ref m5, .ref m6, .int (nI k), .int (nI sk), .int (nI tr), .int (nI (co + 1)), .long (lN (sp_q SW n)), .long (lN wc), .int (nI wt), .int (nI b)])), (m1, .inl (cI, 188, .inl (fun j => nI (sp_t j)))), (m5, .inl (cI, 16384, .inl (sp_cat (sp_up SW n (sp_nx (SW n) true)) SR))), (m6, .inl (cI, 4200, .inl f))] H := hP
        have hD : va_D A [(m0, .inr (7, [.int th, .ref m1, .int (nI w), .int (nI h), .int tp, .int ty, .ref m2, .ref m3, .int sf, .int rdg, .int rt, .int (nI rwd), .int (nI rht), .ref m4, .int dx, .int dy, .int p0, .int q0, .int p1, .int q1, .int kp, .ref m5, .ref m6, .int (nI k), .int (nI sk), .int (nI tr), .int (nI (co + 1)), .long (lN (sp_q SW n)), .long (lN wc), .int (nI wt), .int (nI b)])), (m1, .inl (cI, 188, .inl (fun j => nI (sp_t j)))), (m5, .inl (cI, 16384, .inl (sp_cat (sp_up SW n (sp_nx (SW n) true)) SR))), (m6, .inl (cI, 4200, .inl f))] := hD
        refine lv_aload_n hx hb dX8_write_135 rfl (lv_at hl 3 rfl) ?_
        refine hw_callv (wr := [(m1, .inl (cI, 188, .inl (fun j => nI (sp_t j)))), (m5, .inl (cI, 16384, .inl (sp_cat (sp_up SW n (sp_nx (SW n) true)) SR)))]) (w2 := fun _ : Unit => [(m0, .inr (7, [.int th, .ref m1, .int (nI w), .int (nI h), .int tp, .int ty, .ref m2, .ref m3, .int sf, .int rdg, .int rt, .int (nI rwd), .int (nI rht), .ref m4, .int dx, .int dy, .int p0, .int q0, .int p1, .int q1, .int kp, .ref m5, .ref m6, .int (nI ((sp_rn 15 ((sp_q SW n), wc, wt, k, f)).2.2.2.1)), .int (nI sk), .int (nI tr), .int (nI (co + 1)), .long (lN ((sp_rn 15 ((sp_q SW n), wc, wt, k, f)).1)), .long (lN ((sp_rn 15 ((sp_q SW n), wc, wt, k, f)).2.1)), .int (nI ((sp_rn 15 ((sp_q SW n), wc, wt, k, f)).2.2.1)), .int (nI b)])), (m1, .inl (cI, 188, .inl (fun j => nI (sp_t j)))), (m5, .inl (cI, 16384, .inl (sp_cat (sp_up SW n (sp_nx (SW n) true)) SR))), (m6, .inl (cI, 4200, .inl ((sp_rn 15 ((sp_q SW n), wc, wt, k, f)).2.2.2.2)))]) (va_runV (As := []) (rest := []) ⟨hx, hb, hml, hown, hts⟩ (c_X8_renewWriting l dC dI cI cZ cJ m0 m1 m2 m3 m4 m5 m6 th tp ty sf rdg rt dx dy p0 q0 p1 q1 kp w h rwd rht k sk tr (co + 1) b f (sp_q SW n) wc wt K (sp_WI_lo hI g1 (by omega)) (by omega) (hK0) H.size) (cwV 0 hts gX8_write_X8_renewWriting rfl rfl rfl (by decide +kernel) ⟨Nat.le_of_ble_eq_true rfl, Nat.le_of_ble_eq_true rfl⟩) (hw_preV hP hD hS hA hk [0, 3] (by decide) rfl (ci := 7) (q0 := 0) rfl rfl) rfl rfl hl.1 rfl (lv_room (Nat.le_of_ble_eq_true rfl)) dX8_write_136 ⟨Nat.le_of_ble_eq_true rfl, Nat.le_of_ble_eq_true rfl⟩) hP hD hS hA [0, 3] [1, 2] [2, 0, 1, 3] rfl rfl (by decide) (by decide) (by decide) (fun _ => rfl) (fun u_136_4 H locs hw hP hD hS => ?_)
        have hP : va_P (dC, dI) vwCl [(m0, .inr (7, [.int th, .ref m1, .int (nI w), .int (nI h), .int tp, .int ty, .ref m2, .ref m3, .int sf, .int rdg, .int rt, .int (nI rwd), .int (nI rht), .ref m4, .int dx, .int dy, .int p0, .int q0, .int p1, .int q1, .int kp, .ref m5, .ref m6, .int (nI ((sp_rn 15 ((sp_q SW n), wc, wt, k, f)).2.2.2.1)), .int (nI sk), .int (nI tr), .int (nI (co + 1)), .long (lN ((sp_rn 15 ((sp_q SW n), wc, wt, k, f)).1)), .long (lN ((sp_rn 15 ((sp_q SW n), wc, wt, k, f)).2.1)), .int (nI ((sp_rn 15 ((sp_q SW n), wc, wt, k, f)).2.2.1)), .int (nI b)])), (m1, .inl (cI, 188, .inl (fun j => nI (sp_t j)))), (m5, .inl (cI, 16384, .inl (sp_cat (sp_up SW n (sp_nx (SW n) true)) SR))), (m6, .inl (cI, 4200, .inl ((sp_rn 15 ((sp_q SW n), wc, wt, k, f)).2.2.2.2)))] H := hP
        have hD : va_D A [(m0, .inr (7, [.int th, .ref m1, .int (nI w), .int (nI h), .int tp, .int ty, .ref m2, .ref m3, .int sf, .int rdg, .int rt, .int (nI rwd), .int (nI rht), .ref m4, .int dx, .int dy, .int p0, .int q0, .int p1, .int q1, .int kp, .ref m5, .ref m6, .int (nI ((sp_rn 15 ((sp_q SW n), wc, wt, k, f)).2.2.2.1)), .int (nI sk), .int (nI tr), .int (nI (co + 1)), .long (lN ((sp_rn 15 ((sp_q SW n), wc, wt, k, f)).1)), .long (lN ((sp_rn 15 ((sp_q SW n), wc, wt, k, f)).2.1)), .int (nI ((sp_rn 15 ((sp_q SW n), wc, wt, k, f)).2.2.1)), .int (nI b)])), (m1, .inl (cI, 188, .inl (fun j => nI (sp_t j)))), (m5, .inl (cI, 16384, .inl (sp_cat (sp_up SW n (sp_nx (SW n) true)) SR))), (m6, .inl (cI, 4200, .inl ((sp_rn 15 ((sp_q SW n), wc, wt, k, f)).2.2.2.2)))] := hD
        have hP9 : va_P (dC, dI) vwCl ((fun _ : Unit => [(m0, .inr (7, [.int th, .ref m1, .int (nI w), .int (nI h), .int tp, .int ty, .ref m2, .ref m3, .int sf, .int rdg, .int rt, .int (nI rwd), .int (nI rht), .ref m4, .int dx, .int dy, .int p0, .int q0, .int p1, .int q1, .int kp, .ref m5, .ref m6, .int (nI ((sp_wb (wa, wc, wt, k, f) SW n bit).1.2.2.2.1)), .int (nI sk), .int (nI tr), .int (nI (co + 1)), .long (lN ((sp_wb (wa, wc, wt, k, f) SW n bit).1.1)), .long (lN ((sp_wb (wa, wc, wt, k, f) SW n bit).1.2.1)), .int (nI ((sp_wb (wa, wc, wt, k, f) SW n bit).1.2.2.1)), .int (nI b)])), (m1, .inl (cI, 188, .inl (fun j => nI (sp_t j)))), (m5, .inl (cI, 16384, .inl (sp_cat ((sp_wb (wa, wc, wt, k, f) SW n bit).2) SR))), (m6, .inl (cI, 4200, .inl ((sp_wb (wa, wc, wt, k, f) SW n bit).1.2.2.2.2)))]) ()) H := by
          rw [sp_wb_2 (by rw [nI_eq (by omega) (by omega)] at c_35; exact c_35) (by rw [lg_cmp_lt, show (32768 : Int64) = lN 32768 from rfl, pk_lLT (by omega) (by omega)] at c_69; omega) (by rw [lg_cmp_ge, pk_lLE (by omega) (by omega)] at c_91; omega)]
          exact hP
        have hD9 : va_D A ((fun _ : Unit => [(m0, .inr (7, [.int th, .ref m1, .int (nI w), .int (nI h), .int tp, .int ty, .ref m2, .ref m3, .int sf, .int rdg, .int rt, .int (nI rwd), .int (nI rht), .ref m4, .int dx, .int dy, .int p0, .int q0, .int p1, .int q1, .int kp, .ref m5, .ref m6, .int (nI ((sp_wb (wa, wc, wt, k, f) SW n bit).1.2.2.2.1)), .int (nI sk), .int (nI tr), .int (nI (co + 1)), .long (lN ((sp_wb (wa, wc, wt, k, f) SW n bit).1.1)), .long (lN ((sp_wb (wa, wc, wt, k, f) SW n bit).1.2.1)), .int (nI ((sp_wb (wa, wc, wt, k, f) SW n bit).1.2.2.1)), .int (nI b)])), (m1, .inl (cI, 188, .inl (fun j => nI (sp_t j)))), (m5, .inl (cI, 16384, .inl (sp_cat ((sp_wb (wa, wc, wt, k, f) SW n bit).2) SR))), (m6, .inl (cI, 4200, .inl ((sp_wb (wa, wc, wt, k, f) SW n bit).1.2.2.2.2)))]) ()) := by
          rw [sp_wb_2 (by rw [nI_eq (by omega) (by omega)] at c_35; exact c_35) (by rw [lg_cmp_lt, show (32768 : Int64) = lN 32768 from rfl, pk_lLT (by omega) (by omega)] at c_69; omega) (by rw [lg_cmp_ge, pk_lLE (by omega) (by omega)] at c_91; omega)]
          exact hD
        exact W.vret hx hb hr (fun t ht hW => ⟨⟨(), rfl, trivial, by rw [ht]; exact hP9, va_K.moved hW.alike hK, hD9⟩, hS.F ht⟩) hS.2.2 dX8_write_139
    · refine lv_aload_n hx hb dX8_write_72 rfl (lv_at hl 2 rfl) ?_
      refine lv_aload_n hx hb dX8_write_73 rfl (lv_at hl 2 rfl) ?_
      refine va_get (D := (dC, dI)) (ci := 7) (v := .long (lN wc)) (C := RX8) (T := TX8) (N := 31) hx hb hts hiX8 hown hK hP 0 rfl rfl 28 (by decide) (hts (.fieldLink RX8 107 "RefineRegionsModel" "c" "J") (by decide +kernel)) (fun _ h9 => h9) rfl dX8_write_74 ?_
      refine lv_iload_n hx hb dX8_write_77 rfl (lv_at hl 1 rfl) ?_
      refine lv_i2l (v := (nI (sp_q SW n)).toInt64) hx hb dX8_write_78 rfl ?_
      refine hw_l (y := lN (sp_q SW n)) (nI_l (by omega)) ?_
      refine lv_ladd hx hb dX8_write_79 ?_
      refine hw_l (y := lN (wc + sp_q SW n)) (lN_add _ _) ?_
      refine va_put (D := (dC, dI)) (ci := 7) (v := .long (lN (wc + sp_q SW n))) (ty := .long) (C := RX8) (T := TX8) (N := 31) hx hb hts hiX8 tyX8 tyX8_ok nmX8 hown hK hP hD hS 0 rfl rfl 28 (by decide) (hts (.fieldLink RX8 107 "RefineRegionsModel" "c" "J") (by decide +kernel)) (fun _ h9 => h9) rfl (by decide +kernel) rfl rfl (Nat.le_of_ble_eq_true rfl) dX8_write_80 (fun H locs hP hD hS => ?_)
      have hP : va_P (dC, dI) vwCl [(m0, .inr (7, [.int th, .ref m1, .int (nI w), .int (nI h), .int tp, .int ty, .ref m2, .ref m3, .int sf, .int rdg, .int rt, .int (nI rwd), .int (nI rht), .ref m4, .int dx, .int dy, .int p0, .int q0, .int p1, .int q1, .int kp, .ref m5, .ref m6, .int (nI k), .int (nI sk), .int (nI tr), .int (nI (co + 1)), .long (lN (wa - sp_q SW n)), .long (lN (wc + sp_q SW n)), .int (nI wt), .int (nI b)])), (m1, .inl (cI, 188, .inl (fun j => nI (sp_t j)))), (m5, .inl (cI, 16384, .inl (sp_cat SW SR))), (m6, .inl (cI, 4200, .inl f))] H := hP
      have hD : va_D A [(m0, .inr (7, [.int th, .ref m1, .int (nI w), .int (nI h), .int tp, .int ty, .ref m2, .ref m3, .int sf, .int rdg, .int rt, .int (nI rwd), .int (nI rht), .ref m4, .int dx, .int dy, .int p0, .int q0, .int p1, .int q1, .int kp, .ref m5, .ref m6, .int (nI k), .int (nI sk), .int (nI tr), .int (nI (co + 1)), .long (lN (wa - sp_q SW n)), .long (lN (wc + sp_q SW n)), .int (nI wt), .int (nI b)])), (m1, .inl (cI, 188, .inl (fun j => nI (sp_t j)))), (m5, .inl (cI, 16384, .inl (sp_cat SW SR))), (m6, .inl (cI, 4200, .inl f))] := hD
      have hP9 : va_P (dC, dI) vwCl ((fun _ : Unit => [(m0, .inr (7, [.int th, .ref m1, .int (nI w), .int (nI h), .int tp, .int ty, .ref m2, .ref m3, .int sf, .int rdg, .int rt, .int (nI rwd), .int (nI rht), .ref m4, .int dx, .int dy, .int p0, .int q0, .int p1, .int q1, .int kp, .ref m5, .ref m6, .int (nI ((sp_wb (wa, wc, wt, k, f) SW n bit).1.2.2.2.1)), .int (nI sk), .int (nI tr), .int (nI (co + 1)), .long (lN ((sp_wb (wa, wc, wt, k, f) SW n bit).1.1)), .long (lN ((sp_wb (wa, wc, wt, k, f) SW n bit).1.2.1)), .int (nI ((sp_wb (wa, wc, wt, k, f) SW n bit).1.2.2.1)), .int (nI b)])), (m1, .inl (cI, 188, .inl (fun j => nI (sp_t j)))), (m5, .inl (cI, 16384, .inl (sp_cat ((sp_wb (wa, wc, wt, k, f) SW n bit).2) SR))), (m6, .inl (cI, 4200, .inl ((sp_wb (wa, wc, wt, k, f) SW n bit).1.2.2.2.2)))]) ()) H := by
        rw [sp_wb_1 (by rw [nI_eq (by omega) (by omega)] at c_35; exact c_35) (by rw [lg_cmp_lt, show (32768 : Int64) = lN 32768 from rfl, pk_lLT (by omega) (by omega)] at c_69; omega)]
        exact hP
      have hD9 : va_D A ((fun _ : Unit => [(m0, .inr (7, [.int th, .ref m1, .int (nI w), .int (nI h), .int tp, .int ty, .ref m2, .ref m3, .int sf, .int rdg, .int rt, .int (nI rwd), .int (nI rht), .ref m4, .int dx, .int dy, .int p0, .int q0, .int p1, .int q1, .int kp, .ref m5, .ref m6, .int (nI ((sp_wb (wa, wc, wt, k, f) SW n bit).1.2.2.2.1)), .int (nI sk), .int (nI tr), .int (nI (co + 1)), .long (lN ((sp_wb (wa, wc, wt, k, f) SW n bit).1.1)), .long (lN ((sp_wb (wa, wc, wt, k, f) SW n bit).1.2.1)), .int (nI ((sp_wb (wa, wc, wt, k, f) SW n bit).1.2.2.1)), .int (nI b)])), (m1, .inl (cI, 188, .inl (fun j => nI (sp_t j)))), (m5, .inl (cI, 16384, .inl (sp_cat ((sp_wb (wa, wc, wt, k, f) SW n bit).2) SR))), (m6, .inl (cI, 4200, .inl ((sp_wb (wa, wc, wt, k, f) SW n bit).1.2.2.2.2)))]) ()) := by
        rw [sp_wb_1 (by rw [nI_eq (by omega) (by omega)] at c_35; exact c_35) (by rw [lg_cmp_lt, show (32768 : Int64) = lN 32768 from rfl, pk_lLT (by omega) (by omega)] at c_69; omega)]
        exact hD
      exact W.vret hx hb hr (fun t ht hW => ⟨⟨(), rfl, trivial, by rw [ht]; exact hP9, va_K.moved hW.alike hK, hD9⟩, hS.F ht⟩) hS.2.2 dX8_write_83

set_option maxHeartbeats 4000000 in
set_option maxRecDepth 100000 in
/-- couldBeTypical(y) -/
theorem c_X8_couldBeTypical (l : Launch) (dC : Nat → ClassId) (dI : Nat → Nat → Nat) (cI cZ cJ : ClassId) (m0 : Nat) (m1 : Nat) (m2 : Nat) (m3 : Nat) (m4 : Nat) (m5 : Nat) (m6 : Nat) (th : Int32) (tp : Int32) (ty : Int32) (sf : Int32) (rt : Int32) (dx : Int32) (dy : Int32) (p0 : Int32) (q0 : Int32) (p1 : Int32) (q1 : Int32) (kp : Int32) (w : Nat) (h : Nat) (rwd : Nat) (rht : Nat) (k : Nat) (sk : Nat) (tr : Nat) (co : Nat) (b : Nat) (ma : Int64) (mc : Int64) (mt : Int32) (pf : Nat → Int32) (rg : Nat → Int32) (y : Int32) (hw1 : w ≤ 40) (hh1 : h ≤ 40) (hrw : rwd ≤ 60) (hrh : rht ≤ 60) (hpf : sp_01 pf) (hrg : sp_01 rg) : Met l yX8_couldBeTypical wsX8_couldBeTypical ({ frames := 2, cells := 0, slots := 0, locals := 48 }) (hw_Ro (dC, dI) vwCl (ty3 cI cZ cJ) [(m0, .inr (7, [.int th, .ref m1, .int (nI w), .int (nI h), .int tp, .int ty, .ref m2, .ref m3, .int sf, .int 0, .int rt, .int (nI rwd), .int (nI rht), .ref m4, .int dx, .int dy, .int p0, .int q0, .int p1, .int q1, .int kp, .ref m5, .ref m6, .int (nI k), .int (nI sk), .int (nI tr), .int (nI co), .long ma, .long mc, .int mt, .int (nI b)])), (m2, .inl (cZ, 1600, .inl pf)), (m4, .inl (cZ, 3600, .inl rg))] [.ref m0, .int y]) (vp_Si (fun r => r = sp_z (sp_agr (sp_nine (sp_rf (nI rwd) (nI rht) rg dx dy)) (sp_px (nI 40) (nI w) (nI h) pf) y w))) 0 0 (fun _ => False) := by
  refine Met.ofW (cc := cX8_couldBeTypical) (maxL := 4) (ret := (some .boolean)) (by decide) rfl ?_
  intro pg ev s m args below meth cd s₁ B hml hv
  obtain ⟨rfl, hP, hK, hN, hZ⟩ := hv
  have hx := B.exec
  have hb := B.bytes
  have hr := B.returns
  have hts := atoms_spec (ws := wsX8_couldBeTypical) B.pre
  have hown : s.vm.findClass RX8 = some m.cls := findClass_of_methodNamed B.named
  have hlocks := B.notSynchronized
  have hS : va_S (fun _ => False) s.heap s.heap [] := va_S.rf
  have hk : hw_K (dC, dI) vwCl (ty3 cI cZ cJ) (fun _ => False) s := ⟨hK, hN, hZ⟩
  have hiX8 : ∀ w ∈ u_ws RX8 TX8 31, w ∈ wsX8_couldBeTypical := by decide +kernel
  have hl := lv_entry ([.ref m0, .int y]) (n := 4) (Nat.le_of_ble_eq_true rfl)
  rw [lg_entry_eq]
  generalize (lg_sl ([.ref m0, .int y]) ++ List.replicate (4 - (lg_sl ([.ref m0, .int y])).length) Slot.unset).toArray = ls at hl ⊢
  have hl : lv_has ls 4 [(0, .ref m0), (1, .int y)] := hl
  refine lv_iconst (v := 0) hx hb dX8_couldBeTypical_0 (by decide) ?_
  refine lv_istore_n (lv' := [(2, .int 0), (0, .ref m0), (1, .int y)]) hx hb dX8_couldBeTypical_1 rfl hl (by decide) rfl (fun ls hl => ?_)
  have loop_2 : ∀ (fu : Nat) (i : Nat), (i ≤ w) → (sp_agr (sp_nine (sp_rf (nI rwd) (nI rht) rg dx dy)) (sp_px (nI 40) (nI w) (nI h) pf) y i = true) → (w - i < fu) → ∀ ls : Array Slot, lv_has ls 4 [(2, .int (nI i)), (0, .ref m0), (1, .int y)] → W pg l ev (headSpec wsX8_couldBeTypical ({ frames := 2, cells := 0, slots := 0, locals := 48 })).room s m ([.ref m0, .int y]).toArray below meth cd s.heap [] 0 0 (MQ below (vp_Si (fun r => r = sp_z (sp_agr (sp_nine (sp_rf (nI rwd) (nI rht) rg dx dy)) (sp_px (nI 40) (nI w) (nI h) pf) y w))) ([.ref m0, .int y]).toArray s 0 0 (fun _ => False)) (F0 m 2 ls []) := by
    intro fu
    induction fu with
    | zero =>
      intro i hi hg hm
      omega
    | succ fu ih_2 =>
      intro i hi hg hm ls hl
      refine lv_iload_n hx hb dX8_couldBeTypical_2 rfl (lv_at hl 0 rfl) ?_
      refine lv_aload_n hx hb dX8_couldBeTypical_3 rfl (lv_at hl 1 rfl) ?_
      refine va_get (D := (dC, dI)) (ci := 7) (v := .int (nI w)) (C := RX8) (T := TX8) (N := 31) hx hb hts hiX8 hown hK hP 0 rfl rfl 2 (by decide) (hts (.fieldLink RX8 13 "RefineRegionsModel" "width" "I") (by decide +kernel)) (fun _ h9 => h9) rfl dX8_couldBeTypical_4 ?_
      refine lv_icmp_ge (tgt := 39) hx hb dX8_couldBeTypical_7 (by decide) (fun c_7 => ?_) (fun c_7 => ?_)
      · refine lv_iconst (v := 1) hx hb dX8_couldBeTypical_39 (by decide) ?_
        exact W.zret (v := 1) hx hb hr (by decide +kernel) (fun t ht hW => ⟨1, rfl, by have e9 : i = w := by { rw [nI_leI (by omega) (by omega)] at c_7; omega }; rw [e9] at hg; show (1 : Int32) = sp_z _; rw [hg]; rfl, ht⟩) hS.2.2 dX8_couldBeTypical_40
      · have hi9 : i < w := by rw [nI_leI (by omega) (by omega)] at c_7; omega
        refine lv_aload_n hx hb dX8_couldBeTypical_10 rfl (lv_at hl 1 rfl) ?_
        refine lv_iload_n hx hb dX8_couldBeTypical_11 rfl (lv_at hl 0 rfl) ?_
        refine lv_iload_n hx hb dX8_couldBeTypical_12 rfl (lv_at hl 2 rfl) ?_
        refine hw_callSe (va_runV (As := [.int (nI i), .int y]) (rest := []) ⟨hx, hb, hml, hown, hts⟩ (c_X8_nine l dC dI cI cZ cJ m0 m1 m2 m3 m4 m5 m6 th tp ty sf 0 rt dx dy p0 q0 p1 q1 kp w h rwd rht k sk tr co b ma mc mt rg (nI i) y (hrw) (hrh) (hrg)) (cwV 2 hts gX8_couldBeTypical_X8_nine rfl rfl rfl (by decide +kernel) ⟨Nat.le_of_ble_eq_true rfl, Nat.le_of_ble_eq_true rfl⟩) (hw_roV hP hS hk [0, 2] rfl (ci := 7) (q0 := 0) rfl rfl) rfl rfl hl.1 rfl (lv_room (Nat.le_of_ble_eq_true rfl)) dX8_couldBeTypical_13 ⟨Nat.le_of_ble_eq_true rfl, Nat.le_of_ble_eq_true rfl⟩) ?_
        refine lv_istore_n (lv' := [(3, .int (sp_nine (sp_rf (nI rwd) (nI rht) rg dx dy) (nI i) y)), (2, .int (nI i)), (0, .ref m0), (1, .int y)]) hx hb dX8_couldBeTypical_16 rfl hl (by decide) rfl (fun ls hl => ?_)
        refine lv_iload_n hx hb dX8_couldBeTypical_17 rfl (lv_at hl 0 rfl) ?_
        refine lv_if_lt (tgt := 33) hx hb dX8_couldBeTypical_18 (by decide) (fun c_18 => ?_) (fun c_18 => ?_)
        · refine lv_iinc (v := nI (i + 1)) (lv' := [(2, .int (nI (i + 1))), (3, .int (sp_nine (sp_rf (nI rwd) (nI rht) rg dx dy) (nI i) y)), (0, .ref m0), (1, .int y)]) hx hb dX8_couldBeTypical_33 hl (k := 1) rfl (nI_1 i) (by decide) rfl (fun ls hl => ?_)
          refine lv_goto (tgt := 2) hx hb dX8_couldBeTypical_36 (by decide) ?_
          exact ih_2 (i + 1) (by omega) (by unfold sp_agr; rw [hg]; simp [sp_nine_neg (sp_px_02_rf hrg) c_18]) (by omega) ls (lv_sub hl [0, 2, 3] rfl)
        · refine lv_iload_n hx hb dX8_couldBeTypical_21 rfl (lv_at hl 0 rfl) ?_
          refine lv_aload_n hx hb dX8_couldBeTypical_22 rfl (lv_at hl 2 rfl) ?_
          refine lv_iload_n hx hb dX8_couldBeTypical_23 rfl (lv_at hl 1 rfl) ?_
          refine lv_iload_n hx hb dX8_couldBeTypical_24 rfl (lv_at hl 3 rfl) ?_
          refine hw_callSe (va_runV (As := [.int (nI i), .int y]) (rest := [.int (sp_nine (sp_rf (nI rwd) (nI rht) rg dx dy) (nI i) y)]) ⟨hx, hb, hml, hown, hts⟩ (c_X8_pixel_0 l dC dI cI cZ cJ m0 m1 m2 m3 m4 m5 m6 th tp ty sf rt dx dy p0 q0 p1 q1 kp w h rwd rht k sk tr co b ma mc mt pf (nI i) y (hw1) (hh1) (hpf)) (cwV 2 hts gX8_couldBeTypical_X8_pixel rfl rfl rfl (by decide +kernel) ⟨Nat.le_of_ble_eq_true rfl, Nat.le_of_ble_eq_true rfl⟩) (hw_roV hP hS hk [0, 1] rfl (ci := 7) (q0 := 0) rfl rfl) rfl rfl hl.1 rfl (lv_room (Nat.le_of_ble_eq_true rfl)) dX8_couldBeTypical_25 ⟨Nat.le_of_ble_eq_true rfl, Nat.le_of_ble_eq_true rfl⟩) ?_
          refine lv_icmp_eq (tgt := 33) hx hb dX8_couldBeTypical_28 (by decide) (fun c_28 => ?_) (fun c_28 => ?_)
          · refine lv_iinc (v := nI (i + 1)) (lv' := [(2, .int (nI (i + 1))), (3, .int (sp_nine (sp_rf (nI rwd) (nI rht) rg dx dy) (nI i) y)), (0, .ref m0), (1, .int y)]) hx hb dX8_couldBeTypical_33 hl (k := 1) rfl (nI_1 i) (by decide) rfl (fun ls hl => ?_)
            refine lv_goto (tgt := 2) hx hb dX8_couldBeTypical_36 (by decide) ?_
            exact ih_2 (i + 1) (by omega) (by unfold sp_agr; rw [hg]; simp [c_28]) (by omega) ls (lv_sub hl [0, 2, 3] rfl)
          · refine lv_iconst (v := 0) hx hb dX8_couldBeTypical_31 (by decide) ?_
            exact W.zret (v := 0) hx hb hr (by decide +kernel) (fun t ht hW => ⟨0, rfl, by rw [sp_agr_no (sp_nine_pos c_18) c_28 w hi9]; rfl, ht⟩) hS.2.2 dX8_couldBeTypical_32
  exact loop_2 (w + 1) 0 (Nat.zero_le _) (rfl) (by omega) ls (lv_sub hl [0, 1, 2] rfl)

set_option maxHeartbeats 4000000 in
set_option maxRecDepth 100000 in
/-- contextOf(x, y), reading 0 -/
theorem c_X8_contextOf_0 (l : Launch) (dC : Nat → ClassId) (dI : Nat → Nat → Nat) (cI cZ cJ : ClassId) (m0 : Nat) (m1 : Nat) (m2 : Nat) (m3 : Nat) (m4 : Nat) (m5 : Nat) (m6 : Nat) (th : Int32) (tp : Int32) (ty : Int32) (sf : Int32) (rt : Int32) (dx : Int32) (dy : Int32) (p0 : Int32) (q0 : Int32) (p1 : Int32) (q1 : Int32) (kp : Int32) (w : Nat) (h : Nat) (rwd : Nat) (rht : Nat) (k : Nat) (sk : Nat) (tr : Nat) (co : Nat) (b : Nat) (ma : Int64) (mc : Int64) (mt : Int32) (pf : Nat → Int32) (rg : Nat → Int32) (x : Int32) (y : Int32) (hw1 : w ≤ 40) (hh1 : h ≤ 40) (hrw : rwd ≤ 60) (hrh : rht ≤ 60) (h01 : sp_01 pf) (hrg : sp_01 rg) (htp : tp = 0 ∨ tp = 1) : Met l yX8_contextOf wsX8_contextOf ({ frames := 2, cells := 0, slots := 0, locals := 44 }) (hw_Ro (dC, dI) vwCl (ty3 cI cZ cJ) [(m0, .inr (7, [.int th, .ref m1, .int (nI w), .int (nI h), .int tp, .int ty, .ref m2, .ref m3, .int sf, .int 0, .int rt, .int (nI rwd), .int (nI rht), .ref m4, .int dx, .int dy, .int p0, .int q0, .int p1, .int q1, .int kp, .ref m5, .ref m6, .int (nI k), .int (nI sk), .int (nI tr), .int (nI co), .long ma, .long mc, .int mt, .int (nI b)])), (m2, .inl (cZ, 1600, .inl pf)), (m4, .inl (cZ, 3600, .inl rg))] [.ref m0, .int x, .int y]) (vp_Si (fun r => r = sp_cx tp p0 q0 p1 q1 (sp_px (nI 40) (nI w) (nI h) pf) (sp_rf (nI rwd) (nI rht) rg dx dy) x y)) 0 0 (fun _ => False) := by
  refine Met.ofW (cc := cX8_contextOf) (maxL := 4) (ret := (some .int)) (by decide) rfl ?_
  intro pg ev s m args below meth cd s₁ B hml hv
  obtain ⟨rfl, hP, hK, hN, hZ⟩ := hv
  have hx := B.exec
  have hb := B.bytes
  have hr := B.returns
  have hts := atoms_spec (ws := wsX8_contextOf) B.pre
  have hown : s.vm.findClass RX8 = some m.cls := findClass_of_methodNamed B.named
  have hlocks := B.notSynchronized
  have hS : va_S (fun _ => False) s.heap s.heap [] := va_S.rf
  have hk : hw_K (dC, dI) vwCl (ty3 cI cZ cJ) (fun _ => False) s := ⟨hK, hN, hZ⟩
  have hiX8 : ∀ w ∈ u_ws RX8 TX8 31, w ∈ wsX8_contextOf := by decide +kernel
  have hl := lv_entry ([.ref m0, .int x, .int y]) (n := 4) (Nat.le_of_ble_eq_true rfl)
  rw [lg_entry_eq]
  generalize (lg_sl ([.ref m0, .int x, .int y]) ++ List.replicate (4 - (lg_sl ([.ref m0, .int x, .int y])).length) Slot.unset).toArray = ls at hl ⊢
  have hl : lv_has ls 4 [(0, .ref m0), (1, .int x), (2, .int y)] := hl
  refine lv_aload_n hx hb dX8_contextOf_0 rfl (lv_at hl 0 rfl) ?_
  refine lv_iload_n hx hb dX8_contextOf_1 rfl (lv_at hl 1 rfl) ?_
  refine lv_iconst (v := 1) hx hb dX8_contextOf_2 (by decide) ?_
  refine lv_isub hx hb dX8_contextOf_3 ?_
  refine lv_iload_n hx hb dX8_contextOf_4 rfl (lv_at hl 2 rfl) ?_
  refine hw_callSe (va_runV (As := [.int (x - 1), .int y]) (rest := []) ⟨hx, hb, hml, hown, hts⟩ (c_X8_pixel_0 l dC dI cI cZ cJ m0 m1 m2 m3 m4 m5 m6 th tp ty sf rt dx dy p0 q0 p1 q1 kp w h rwd rht k sk tr co b ma mc mt pf (x - 1) y (hw1) (hh1) (h01)) (cwV 2 hts gX8_contextOf_X8_pixel rfl rfl rfl (by decide +kernel) ⟨Nat.le_of_ble_eq_true rfl, Nat.le_of_ble_eq_true rfl⟩) (hw_roV hP hS hk [0, 1] rfl (ci := 7) (q0 := 0) rfl rfl) rfl rfl hl.1 rfl (lv_room (Nat.le_of_ble_eq_true rfl)) dX8_contextOf_5 ⟨Nat.le_of_ble_eq_true rfl, Nat.le_of_ble_eq_true rfl⟩) ?_
  refine lv_aload_n hx hb dX8_contextOf_8 rfl (lv_at hl 0 rfl) ?_
  refine lv_iload_n hx hb dX8_contextOf_9 rfl (lv_at hl 1 rfl) ?_
  refine lv_iconst (v := 1) hx hb dX8_contextOf_10 (by decide) ?_
  refine lv_iadd hx hb dX8_contextOf_11 ?_
  refine lv_iload_n hx hb dX8_contextOf_12 rfl (lv_at hl 2 rfl) ?_
  refine lv_iconst (v := 1) hx hb dX8_contextOf_13 (by decide) ?_
  refine lv_isub hx hb dX8_contextOf_14 ?_
  refine hw_callSe (va_runV (As := [.int (x + 1), .int (y - 1)]) (rest := [.int (sp_px (nI 40) (nI w) (nI h) pf (x - 1) y)]) ⟨hx, hb, hml, hown, hts⟩ (c_X8_pixel_0 l dC dI cI cZ cJ m0 m1 m2 m3 m4 m5 m6 th tp ty sf rt dx dy p0 q0 p1 q1 kp w h rwd rht k sk tr co b ma mc mt pf (x + 1) (y - 1) (hw1) (hh1) (h01)) (cwV 2 hts gX8_contextOf_X8_pixel rfl rfl rfl (by decide +kernel) ⟨Nat.le_of_ble_eq_true rfl, Nat.le_of_ble_eq_true rfl⟩) (hw_roV hP hS hk [0, 1] rfl (ci := 7) (q0 := 0) rfl rfl) rfl rfl hl.1 rfl (lv_room (Nat.le_of_ble_eq_true rfl)) dX8_contextOf_15 ⟨Nat.le_of_ble_eq_true rfl, Nat.le_of_ble_eq_true rfl⟩) ?_
  refine lv_iconst (v := 1) hx hb dX8_contextOf_18 (by decide) ?_
  refine lv_ishl hx hb dX8_contextOf_19 ?_
  refine lv_ior hx hb dX8_contextOf_20 ?_
  refine lv_aload_n hx hb dX8_contextOf_21 rfl (lv_at hl 0 rfl) ?_
  refine lv_iload_n hx hb dX8_contextOf_22 rfl (lv_at hl 1 rfl) ?_
  refine lv_iload_n hx hb dX8_contextOf_23 rfl (lv_at hl 2 rfl) ?_
  refine lv_iconst (v := 1) hx hb dX8_contextOf_24 (by decide) ?_
  refine lv_isub hx hb dX8_contextOf_25 ?_
  refine hw_callSe (va_runV (As := [.int x, .int (y - 1)]) (rest := [.int ((sp_px (nI 40) (nI w) (nI h) pf (x - 1) y) ||| ((sp_px (nI 40) (nI w) (nI h) pf (x + 1) (y - 1)) <<< (1 &&& 31)))]) ⟨hx, hb, hml, hown, hts⟩ (c_X8_pixel_0 l dC dI cI cZ cJ m0 m1 m2 m3 m4 m5 m6 th tp ty sf rt dx dy p0 q0 p1 q1 kp w h rwd rht k sk tr co b ma mc mt pf x (y - 1) (hw1) (hh1) (h01)) (cwV 2 hts gX8_contextOf_X8_pixel rfl rfl rfl (by decide +kernel) ⟨Nat.le_of_ble_eq_true rfl, Nat.le_of_ble_eq_true rfl⟩) (hw_roV hP hS hk [0, 1] rfl (ci := 7) (q0 := 0) rfl rfl) rfl rfl hl.1 rfl (lv_room (Nat.le_of_ble_eq_true rfl)) dX8_contextOf_26 ⟨Nat.le_of_ble_eq_true rfl, Nat.le_of_ble_eq_true rfl⟩) ?_
  refine lv_iconst (v := 2) hx hb dX8_contextOf_29 (by decide) ?_
  refine lv_ishl hx hb dX8_contextOf_30 ?_
  refine lv_ior hx hb dX8_contextOf_31 ?_
  refine lv_istore_n (lv' := [(3, .int (((sp_px (nI 40) (nI w) (nI h) pf (x - 1) y) ||| ((sp_px (nI 40) (nI w) (nI h) pf (x + 1) (y - 1)) <<< (1 &&& 31))) ||| ((sp_px (nI 40) (nI w) (nI h) pf x (y - 1)) <<< (2 &&& 31)))), (0, .ref m0), (1, .int x), (2, .int y)]) hx hb dX8_contextOf_32 rfl hl (by decide) rfl (fun ls hl => ?_)
  refine lv_aload_n hx hb dX8_contextOf_33 rfl (lv_at hl 1 rfl) ?_
  refine va_get (D := (dC, dI)) (ci := 7) (v := .int tp) (C := RX8) (T := TX8) (N := 31) hx hb hts hiX8 hown hK hP 0 rfl rfl 4 (by decide) (hts (.fieldLink RX8 51 "RefineRegionsModel" "template" "I") (by decide +kernel)) (fun _ h9 => h9) rfl dX8_contextOf_34 ?_
  refine lv_iconst (v := 1) hx hb dX8_contextOf_37 (by decide) ?_
  refine lv_icmp_ne (tgt := 130) hx hb dX8_contextOf_38 (by decide) (fun c_38 => ?_) (fun c_38 => ?_)
  · refine lv_iload_n hx hb dX8_contextOf_130 rfl (lv_at hl 0 rfl) ?_
    refine lv_aload_n hx hb dX8_contextOf_131 rfl (lv_at hl 1 rfl) ?_
    refine lv_iload_n hx hb dX8_contextOf_132 rfl (lv_at hl 2 rfl) ?_
    refine lv_aload_n hx hb dX8_contextOf_133 rfl (lv_at hl 1 rfl) ?_
    refine va_get (D := (dC, dI)) (ci := 7) (v := .int p0) (C := RX8) (T := TX8) (N := 31) hx hb hts hiX8 hown hK hP 0 rfl rfl 16 (by decide) (hts (.fieldLink RX8 30 "RefineRegionsModel" "p0" "I") (by decide +kernel)) (fun _ h9 => h9) rfl dX8_contextOf_134 ?_
    refine lv_iadd hx hb dX8_contextOf_137 ?_
    refine lv_iload_n hx hb dX8_contextOf_138 rfl (lv_at hl 3 rfl) ?_
    refine lv_aload_n hx hb dX8_contextOf_139 rfl (lv_at hl 1 rfl) ?_
    refine va_get (D := (dC, dI)) (ci := 7) (v := .int q0) (C := RX8) (T := TX8) (N := 31) hx hb hts hiX8 hown hK hP 0 rfl rfl 17 (by decide) (hts (.fieldLink RX8 33 "RefineRegionsModel" "q0" "I") (by decide +kernel)) (fun _ h9 => h9) rfl dX8_contextOf_140 ?_
    refine lv_iadd hx hb dX8_contextOf_143 ?_
    refine hw_callSe (va_runV (As := [.int (x + p0), .int (y + q0)]) (rest := [.int (((sp_px (nI 40) (nI w) (nI h) pf (x - 1) y) ||| ((sp_px (nI 40) (nI w) (nI h) pf (x + 1) (y - 1)) <<< (1 &&& 31))) ||| ((sp_px (nI 40) (nI w) (nI h) pf x (y - 1)) <<< (2 &&& 31)))]) ⟨hx, hb, hml, hown, hts⟩ (c_X8_pixel_0 l dC dI cI cZ cJ m0 m1 m2 m3 m4 m5 m6 th tp ty sf rt dx dy p0 q0 p1 q1 kp w h rwd rht k sk tr co b ma mc mt pf (x + p0) (y + q0) (hw1) (hh1) (h01)) (cwV 2 hts gX8_contextOf_X8_pixel rfl rfl rfl (by decide +kernel) ⟨Nat.le_of_ble_eq_true rfl, Nat.le_of_ble_eq_true rfl⟩) (hw_roV hP hS hk [0, 1] rfl (ci := 7) (q0 := 0) rfl rfl) rfl rfl hl.1 rfl (lv_room (Nat.le_of_ble_eq_true rfl)) dX8_contextOf_144 ⟨Nat.le_of_ble_eq_true rfl, Nat.le_of_ble_eq_true rfl⟩) ?_
    refine lv_iconst (v := 3) hx hb dX8_contextOf_147 (by decide) ?_
    refine lv_ishl hx hb dX8_contextOf_148 ?_
    refine lv_ior hx hb dX8_contextOf_149 ?_
    refine lv_istore_n (lv' := [(3, .int ((((sp_px (nI 40) (nI w) (nI h) pf (x - 1) y) ||| ((sp_px (nI 40) (nI w) (nI h) pf (x + 1) (y - 1)) <<< (1 &&& 31))) ||| ((sp_px (nI 40) (nI w) (nI h) pf x (y - 1)) <<< (2 &&& 31))) ||| ((sp_px (nI 40) (nI w) (nI h) pf (x + p0) (y + q0)) <<< (3 &&& 31)))), (0, .ref m0), (1, .int x), (2, .int y)]) hx hb dX8_contextOf_150 rfl hl (by decide) rfl (fun ls hl => ?_)
    refine lv_iload_n hx hb dX8_contextOf_151 rfl (lv_at hl 0 rfl) ?_
    refine lv_aload_n hx hb dX8_contextOf_152 rfl (lv_at hl 1 rfl) ?_
    refine lv_iload_n hx hb dX8_contextOf_153 rfl (lv_at hl 2 rfl) ?_
    refine lv_iconst (v := 1) hx hb dX8_contextOf_154 (by decide) ?_
    refine lv_iadd hx hb dX8_contextOf_155 ?_
    refine lv_iload_n hx hb dX8_contextOf_156 rfl (lv_at hl 3 rfl) ?_
    refine lv_iconst (v := 1) hx hb dX8_contextOf_157 (by decide) ?_
    refine lv_iadd hx hb dX8_contextOf_158 ?_
    refine hw_callSe (va_runV (As := [.int (x + 1), .int (y + 1)]) (rest := [.int ((((sp_px (nI 40) (nI w) (nI h) pf (x - 1) y) ||| ((sp_px (nI 40) (nI w) (nI h) pf (x + 1) (y - 1)) <<< (1 &&& 31))) ||| ((sp_px (nI 40) (nI w) (nI h) pf x (y - 1)) <<< (2 &&& 31))) ||| ((sp_px (nI 40) (nI w) (nI h) pf (x + p0) (y + q0)) <<< (3 &&& 31)))]) ⟨hx, hb, hml, hown, hts⟩ (c_X8_referred l dC dI cI cZ cJ m0 m1 m2 m3 m4 m5 m6 th tp ty sf 0 rt dx dy p0 q0 p1 q1 kp w h rwd rht k sk tr co b ma mc mt rg (x + 1) (y + 1) (hrw) (hrh) (hrg)) (cwV 2 hts gX8_contextOf_X8_referred rfl rfl rfl (by decide +kernel) ⟨Nat.le_of_ble_eq_true rfl, Nat.le_of_ble_eq_true rfl⟩) (hw_roV hP hS hk [0, 2] rfl (ci := 7) (q0 := 0) rfl rfl) rfl rfl hl.1 rfl (lv_room (Nat.le_of_ble_eq_true rfl)) dX8_contextOf_159 ⟨Nat.le_of_ble_eq_true rfl, Nat.le_of_ble_eq_true rfl⟩) ?_
    refine lv_iconst (v := 4) hx hb dX8_contextOf_162 (by decide) ?_
    refine lv_ishl hx hb dX8_contextOf_163 ?_
    refine lv_ior hx hb dX8_contextOf_164 ?_
    refine lv_aload_n hx hb dX8_contextOf_165 rfl (lv_at hl 1 rfl) ?_
    refine lv_iload_n hx hb dX8_contextOf_166 rfl (lv_at hl 2 rfl) ?_
    refine lv_iload_n hx hb dX8_contextOf_167 rfl (lv_at hl 3 rfl) ?_
    refine lv_iconst (v := 1) hx hb dX8_contextOf_168 (by decide) ?_
    refine lv_iadd hx hb dX8_contextOf_169 ?_
    refine hw_callSe (va_runV (As := [.int x, .int (y + 1)]) (rest := [.int (((((sp_px (nI 40) (nI w) (nI h) pf (x - 1) y) ||| ((sp_px (nI 40) (nI w) (nI h) pf (x + 1) (y - 1)) <<< (1 &&& 31))) ||| ((sp_px (nI 40) (nI w) (nI h) pf x (y - 1)) <<< (2 &&& 31))) ||| ((sp_px (nI 40) (nI w) (nI h) pf (x + p0) (y + q0)) <<< (3 &&& 31))) ||| ((sp_rf (nI rwd) (nI rht) rg dx dy (x + 1) (y + 1)) <<< (4 &&& 31)))]) ⟨hx, hb, hml, hown, hts⟩ (c_X8_referred l dC dI cI cZ cJ m0 m1 m2 m3 m4 m5 m6 th tp ty sf 0 rt dx dy p0 q0 p1 q1 kp w h rwd rht k sk tr co b ma mc mt rg x (y + 1) (hrw) (hrh) (hrg)) (cwV 2 hts gX8_contextOf_X8_referred rfl rfl rfl (by decide +kernel) ⟨Nat.le_of_ble_eq_true rfl, Nat.le_of_ble_eq_true rfl⟩) (hw_roV hP hS hk [0, 2] rfl (ci := 7) (q0 := 0) rfl rfl) rfl rfl hl.1 rfl (lv_room (Nat.le_of_ble_eq_true rfl)) dX8_contextOf_170 ⟨Nat.le_of_ble_eq_true rfl, Nat.le_of_ble_eq_true rfl⟩) ?_
    refine lv_iconst (v := 5) hx hb dX8_contextOf_173 (by decide) ?_
    refine lv_ishl hx hb dX8_contextOf_174 ?_
    refine lv_ior hx hb dX8_contextOf_175 ?_
    refine lv_aload_n hx hb dX8_contextOf_176 rfl (lv_at hl 1 rfl) ?_
    refine lv_iload_n hx hb dX8_contextOf_177 rfl (lv_at hl 2 rfl) ?_
    refine lv_iconst (v := 1) hx hb dX8_contextOf_178 (by decide) ?_
    refine lv_isub hx hb dX8_contextOf_179 ?_
    refine lv_iload_n hx hb dX8_contextOf_180 rfl (lv_at hl 3 rfl) ?_
    refine lv_iconst (v := 1) hx hb dX8_contextOf_181 (by decide) ?_
    refine lv_iadd hx hb dX8_contextOf_182 ?_
    refine hw_callSe (va_runV (As := [.int (x - 1), .int (y + 1)]) (rest := [.int ((((((sp_px (nI 40) (nI w) (nI h) pf (x - 1) y) ||| ((sp_px (nI 40) (nI w) (nI h) pf (x + 1) (y - 1)) <<< (1 &&& 31))) ||| ((sp_px (nI 40) (nI w) (nI h) pf x (y - 1)) <<< (2 &&& 31))) ||| ((sp_px (nI 40) (nI w) (nI h) pf (x + p0) (y + q0)) <<< (3 &&& 31))) ||| ((sp_rf (nI rwd) (nI rht) rg dx dy (x + 1) (y + 1)) <<< (4 &&& 31))) ||| ((sp_rf (nI rwd) (nI rht) rg dx dy x (y + 1)) <<< (5 &&& 31)))]) ⟨hx, hb, hml, hown, hts⟩ (c_X8_referred l dC dI cI cZ cJ m0 m1 m2 m3 m4 m5 m6 th tp ty sf 0 rt dx dy p0 q0 p1 q1 kp w h rwd rht k sk tr co b ma mc mt rg (x - 1) (y + 1) (hrw) (hrh) (hrg)) (cwV 2 hts gX8_contextOf_X8_referred rfl rfl rfl (by decide +kernel) ⟨Nat.le_of_ble_eq_true rfl, Nat.le_of_ble_eq_true rfl⟩) (hw_roV hP hS hk [0, 2] rfl (ci := 7) (q0 := 0) rfl rfl) rfl rfl hl.1 rfl (lv_room (Nat.le_of_ble_eq_true rfl)) dX8_contextOf_183 ⟨Nat.le_of_ble_eq_true rfl, Nat.le_of_ble_eq_true rfl⟩) ?_
    refine lv_bipush (v := 6) hx hb dX8_contextOf_186 (by decide) ?_
    refine lv_ishl hx hb dX8_contextOf_188 ?_
    refine lv_ior hx hb dX8_contextOf_189 ?_
    refine lv_istore_n (lv' := [(3, .int (((((((sp_px (nI 40) (nI w) (nI h) pf (x - 1) y) ||| ((sp_px (nI 40) (nI w) (nI h) pf (x + 1) (y - 1)) <<< (1 &&& 31))) ||| ((sp_px (nI 40) (nI w) (nI h) pf x (y - 1)) <<< (2 &&& 31))) ||| ((sp_px (nI 40) (nI w) (nI h) pf (x + p0) (y + q0)) <<< (3 &&& 31))) ||| ((sp_rf (nI rwd) (nI rht) rg dx dy (x + 1) (y + 1)) <<< (4 &&& 31))) ||| ((sp_rf (nI rwd) (nI rht) rg dx dy x (y + 1)) <<< (5 &&& 31))) ||| ((sp_rf (nI rwd) (nI rht) rg dx dy (x - 1) (y + 1)) <<< (6 &&& 31)))), (0, .ref m0), (1, .int x), (2, .int y)]) hx hb dX8_contextOf_190 rfl hl (by decide) rfl (fun ls hl => ?_)
    refine lv_iload_n hx hb dX8_contextOf_191 rfl (lv_at hl 0 rfl) ?_
    refine lv_aload_n hx hb dX8_contextOf_192 rfl (lv_at hl 1 rfl) ?_
    refine lv_iload_n hx hb dX8_contextOf_193 rfl (lv_at hl 2 rfl) ?_
    refine lv_iconst (v := 1) hx hb dX8_contextOf_194 (by decide) ?_
    refine lv_iadd hx hb dX8_contextOf_195 ?_
    refine lv_iload_n hx hb dX8_contextOf_196 rfl (lv_at hl 3 rfl) ?_
    refine hw_callSe (va_runV (As := [.int (x + 1), .int y]) (rest := [.int (((((((sp_px (nI 40) (nI w) (nI h) pf (x - 1) y) ||| ((sp_px (nI 40) (nI w) (nI h) pf (x + 1) (y - 1)) <<< (1 &&& 31))) ||| ((sp_px (nI 40) (nI w) (nI h) pf x (y - 1)) <<< (2 &&& 31))) ||| ((sp_px (nI 40) (nI w) (nI h) pf (x + p0) (y + q0)) <<< (3 &&& 31))) ||| ((sp_rf (nI rwd) (nI rht) rg dx dy (x + 1) (y + 1)) <<< (4 &&& 31))) ||| ((sp_rf (nI rwd) (nI rht) rg dx dy x (y + 1)) <<< (5 &&& 31))) ||| ((sp_rf (nI rwd) (nI rht) rg dx dy (x - 1) (y + 1)) <<< (6 &&& 31)))]) ⟨hx, hb, hml, hown, hts⟩ (c_X8_referred l dC dI cI cZ cJ m0 m1 m2 m3 m4 m5 m6 th tp ty sf 0 rt dx dy p0 q0 p1 q1 kp w h rwd rht k sk tr co b ma mc mt rg (x + 1) y (hrw) (hrh) (hrg)) (cwV 2 hts gX8_contextOf_X8_referred rfl rfl rfl (by decide +kernel) ⟨Nat.le_of_ble_eq_true rfl, Nat.le_of_ble_eq_true rfl⟩) (hw_roV hP hS hk [0, 2] rfl (ci := 7) (q0 := 0) rfl rfl) rfl rfl hl.1 rfl (lv_room (Nat.le_of_ble_eq_true rfl)) dX8_contextOf_197 ⟨Nat.le_of_ble_eq_true rfl, Nat.le_of_ble_eq_true rfl⟩) ?_
    refine lv_bipush (v := 7) hx hb dX8_contextOf_200 (by decide) ?_
    refine lv_ishl hx hb dX8_contextOf_202 ?_
    refine lv_ior hx hb dX8_contextOf_203 ?_
    refine lv_aload_n hx hb dX8_contextOf_204 rfl (lv_at hl 1 rfl) ?_
    refine lv_iload_n hx hb dX8_contextOf_205 rfl (lv_at hl 2 rfl) ?_
    refine lv_iload_n hx hb dX8_contextOf_206 rfl (lv_at hl 3 rfl) ?_
    refine hw_callSe (va_runV (As := [.int x, .int y]) (rest := [.int ((((((((sp_px (nI 40) (nI w) (nI h) pf (x - 1) y) ||| ((sp_px (nI 40) (nI w) (nI h) pf (x + 1) (y - 1)) <<< (1 &&& 31))) ||| ((sp_px (nI 40) (nI w) (nI h) pf x (y - 1)) <<< (2 &&& 31))) ||| ((sp_px (nI 40) (nI w) (nI h) pf (x + p0) (y + q0)) <<< (3 &&& 31))) ||| ((sp_rf (nI rwd) (nI rht) rg dx dy (x + 1) (y + 1)) <<< (4 &&& 31))) ||| ((sp_rf (nI rwd) (nI rht) rg dx dy x (y + 1)) <<< (5 &&& 31))) ||| ((sp_rf (nI rwd) (nI rht) rg dx dy (x - 1) (y + 1)) <<< (6 &&& 31))) ||| ((sp_rf (nI rwd) (nI rht) rg dx dy (x + 1) y) <<< (7 &&& 31)))]) ⟨hx, hb, hml, hown, hts⟩ (c_X8_referred l dC dI cI cZ cJ m0 m1 m2 m3 m4 m5 m6 th tp ty sf 0 rt dx dy p0 q0 p1 q1 kp w h rwd rht k sk tr co b ma mc mt rg x y (hrw) (hrh) (hrg)) (cwV 2 hts gX8_contextOf_X8_referred rfl rfl rfl (by decide +kernel) ⟨Nat.le_of_ble_eq_true rfl, Nat.le_of_ble_eq_true rfl⟩) (hw_roV hP hS hk [0, 2] rfl (ci := 7) (q0 := 0) rfl rfl) rfl rfl hl.1 rfl (lv_room (Nat.le_of_ble_eq_true rfl)) dX8_contextOf_207 ⟨Nat.le_of_ble_eq_true rfl, Nat.le_of_ble_eq_true rfl⟩) ?_
    refine lv_bipush (v := 8) hx hb dX8_contextOf_210 (by decide) ?_
    refine lv_ishl hx hb dX8_contextOf_212 ?_
    refine lv_ior hx hb dX8_contextOf_213 ?_
    refine lv_aload_n hx hb dX8_contextOf_214 rfl (lv_at hl 1 rfl) ?_
    refine lv_iload_n hx hb dX8_contextOf_215 rfl (lv_at hl 2 rfl) ?_
    refine lv_iconst (v := 1) hx hb dX8_contextOf_216 (by decide) ?_
    refine lv_isub hx hb dX8_contextOf_217 ?_
    refine lv_iload_n hx hb dX8_contextOf_218 rfl (lv_at hl 3 rfl) ?_
    refine hw_callSe (va_runV (As := [.int (x - 1), .int y]) (rest := [.int (((((((((sp_px (nI 40) (nI w) (nI h) pf (x - 1) y) ||| ((sp_px (nI 40) (nI w) (nI h) pf (x + 1) (y - 1)) <<< (1 &&& 31))) ||| ((sp_px (nI 40) (nI w) (nI h) pf x (y - 1)) <<< (2 &&& 31))) ||| ((sp_px (nI 40) (nI w) (nI h) pf (x + p0) (y + q0)) <<< (3 &&& 31))) ||| ((sp_rf (nI rwd) (nI rht) rg dx dy (x + 1) (y + 1)) <<< (4 &&& 31))) ||| ((sp_rf (nI rwd) (nI rht) rg dx dy x (y + 1)) <<< (5 &&& 31))) ||| ((sp_rf (nI rwd) (nI rht) rg dx dy (x - 1) (y + 1)) <<< (6 &&& 31))) ||| ((sp_rf (nI rwd) (nI rht) rg dx dy (x + 1) y) <<< (7 &&& 31))) ||| ((sp_rf (nI rwd) (nI rht) rg dx dy x y) <<< (8 &&& 31)))]) ⟨hx, hb, hml, hown, hts⟩ (c_X8_referred l dC dI cI cZ cJ m0 m1 m2 m3 m4 m5 m6 th tp ty sf 0 rt dx dy p0 q0 p1 q1 kp w h rwd rht k sk tr co b ma mc mt rg (x - 1) y (hrw) (hrh) (hrg)) (cwV 2 hts gX8_contextOf_X8_referred rfl rfl rfl (by decide +kernel) ⟨Nat.le_of_ble_eq_true rfl, Nat.le_of_ble_eq_true rfl⟩) (hw_roV hP hS hk [0, 2] rfl (ci := 7) (q0 := 0) rfl rfl) rfl rfl hl.1 rfl (lv_room (Nat.le_of_ble_eq_true rfl)) dX8_contextOf_219 ⟨Nat.le_of_ble_eq_true rfl, Nat.le_of_ble_eq_true rfl⟩) ?_
    refine lv_bipush (v := 9) hx hb dX8_contextOf_222 (by decide) ?_
    refine lv_ishl hx hb dX8_contextOf_224 ?_
    refine lv_ior hx hb dX8_contextOf_225 ?_
    refine lv_istore_n (lv' := [(3, .int ((((((((((sp_px (nI 40) (nI w) (nI h) pf (x - 1) y) ||| ((sp_px (nI 40) (nI w) (nI h) pf (x + 1) (y - 1)) <<< (1 &&& 31))) ||| ((sp_px (nI 40) (nI w) (nI h) pf x (y - 1)) <<< (2 &&& 31))) ||| ((sp_px (nI 40) (nI w) (nI h) pf (x + p0) (y + q0)) <<< (3 &&& 31))) ||| ((sp_rf (nI rwd) (nI rht) rg dx dy (x + 1) (y + 1)) <<< (4 &&& 31))) ||| ((sp_rf (nI rwd) (nI rht) rg dx dy x (y + 1)) <<< (5 &&& 31))) ||| ((sp_rf (nI rwd) (nI rht) rg dx dy (x - 1) (y + 1)) <<< (6 &&& 31))) ||| ((sp_rf (nI rwd) (nI rht) rg dx dy (x + 1) y) <<< (7 &&& 31))) ||| ((sp_rf (nI rwd) (nI rht) rg dx dy x y) <<< (8 &&& 31))) ||| ((sp_rf (nI rwd) (nI rht) rg dx dy (x - 1) y) <<< (9 &&& 31)))), (0, .ref m0), (1, .int x), (2, .int y)]) hx hb dX8_contextOf_226 rfl hl (by decide) rfl (fun ls hl => ?_)
    refine lv_iload_n hx hb dX8_contextOf_227 rfl (lv_at hl 0 rfl) ?_
    refine lv_aload_n hx hb dX8_contextOf_228 rfl (lv_at hl 1 rfl) ?_
    refine lv_iload_n hx hb dX8_contextOf_229 rfl (lv_at hl 2 rfl) ?_
    refine lv_iconst (v := 1) hx hb dX8_contextOf_230 (by decide) ?_
    refine lv_iadd hx hb dX8_contextOf_231 ?_
    refine lv_iload_n hx hb dX8_contextOf_232 rfl (lv_at hl 3 rfl) ?_
    refine lv_iconst (v := 1) hx hb dX8_contextOf_233 (by decide) ?_
    refine lv_isub hx hb dX8_contextOf_234 ?_
    refine hw_callSe (va_runV (As := [.int (x + 1), .int (y - 1)]) (rest := [.int ((((((((((sp_px (nI 40) (nI w) (nI h) pf (x - 1) y) ||| ((sp_px (nI 40) (nI w) (nI h) pf (x + 1) (y - 1)) <<< (1 &&& 31))) ||| ((sp_px (nI 40) (nI w) (nI h) pf x (y - 1)) <<< (2 &&& 31))) ||| ((sp_px (nI 40) (nI w) (nI h) pf (x + p0) (y + q0)) <<< (3 &&& 31))) ||| ((sp_rf (nI rwd) (nI rht) rg dx dy (x + 1) (y + 1)) <<< (4 &&& 31))) ||| ((sp_rf (nI rwd) (nI rht) rg dx dy x (y + 1)) <<< (5 &&& 31))) ||| ((sp_rf (nI rwd) (nI rht) rg dx dy (x - 1) (y + 1)) <<< (6 &&& 31))) ||| ((sp_rf (nI rwd) (nI rht) rg dx dy (x + 1) y) <<< (7 &&& 31))) ||| ((sp_rf (nI rwd) (nI rht) rg dx dy x y) <<< (8 &&& 31))) ||| ((sp_rf (nI rwd) (nI rht) rg dx dy (x - 1) y) <<< (9 &&& 31)))]) ⟨hx, hb, hml, hown, hts⟩ (c_X8_referred l dC dI cI cZ cJ m0 m1 m2 m3 m4 m5 m6 th tp ty sf 0 rt dx dy p0 q0 p1 q1 kp w h rwd rht k sk tr co b ma mc mt rg (x + 1) (y - 1) (hrw) (hrh) (hrg)) (cwV 2 hts gX8_contextOf_X8_referred rfl rfl rfl (by decide +kernel) ⟨Nat.le_of_ble_eq_true rfl, Nat.le_of_ble_eq_true rfl⟩) (hw_roV hP hS hk [0, 2] rfl (ci := 7) (q0 := 0) rfl rfl) rfl rfl hl.1 rfl (lv_room (Nat.le_of_ble_eq_true rfl)) dX8_contextOf_235 ⟨Nat.le_of_ble_eq_true rfl, Nat.le_of_ble_eq_true rfl⟩) ?_
    refine lv_bipush (v := 10) hx hb dX8_contextOf_238 (by decide) ?_
    refine lv_ishl hx hb dX8_contextOf_240 ?_
    refine lv_ior hx hb dX8_contextOf_241 ?_
    refine lv_aload_n hx hb dX8_contextOf_242 rfl (lv_at hl 1 rfl) ?_
    refine lv_iload_n hx hb dX8_contextOf_243 rfl (lv_at hl 2 rfl) ?_
    refine lv_iload_n hx hb dX8_contextOf_244 rfl (lv_at hl 3 rfl) ?_
    refine lv_iconst (v := 1) hx hb dX8_contextOf_245 (by decide) ?_
    refine lv_isub hx hb dX8_contextOf_246 ?_
    refine hw_callSe (va_runV (As := [.int x, .int (y - 1)]) (rest := [.int (((((((((((sp_px (nI 40) (nI w) (nI h) pf (x - 1) y) ||| ((sp_px (nI 40) (nI w) (nI h) pf (x + 1) (y - 1)) <<< (1 &&& 31))) ||| ((sp_px (nI 40) (nI w) (nI h) pf x (y - 1)) <<< (2 &&& 31))) ||| ((sp_px (nI 40) (nI w) (nI h) pf (x + p0) (y + q0)) <<< (3 &&& 31))) ||| ((sp_rf (nI rwd) (nI rht) rg dx dy (x + 1) (y + 1)) <<< (4 &&& 31))) ||| ((sp_rf (nI rwd) (nI rht) rg dx dy x (y + 1)) <<< (5 &&& 31))) ||| ((sp_rf (nI rwd) (nI rht) rg dx dy (x - 1) (y + 1)) <<< (6 &&& 31))) ||| ((sp_rf (nI rwd) (nI rht) rg dx dy (x + 1) y) <<< (7 &&& 31))) ||| ((sp_rf (nI rwd) (nI rht) rg dx dy x y) <<< (8 &&& 31))) ||| ((sp_rf (nI rwd) (nI rht) rg dx dy (x - 1) y) <<< (9 &&& 31))) ||| ((sp_rf (nI rwd) (nI rht) rg dx dy (x + 1) (y - 1)) <<< (10 &&& 31)))]) ⟨hx, hb, hml, hown, hts⟩ (c_X8_referred l dC dI cI cZ cJ m0 m1 m2 m3 m4 m5 m6 th tp ty sf 0 rt dx dy p0 q0 p1 q1 kp w h rwd rht k sk tr co b ma mc mt rg x (y - 1) (hrw) (hrh) (hrg)) (cwV 2 hts gX8_contextOf_X8_referred rfl rfl rfl (by decide +kernel) ⟨Nat.le_of_ble_eq_true rfl, Nat.le_of_ble_eq_true rfl⟩) (hw_roV hP hS hk [0, 2] rfl (ci := 7) (q0 := 0) rfl rfl) rfl rfl hl.1 rfl (lv_room (Nat.le_of_ble_eq_true rfl)) dX8_contextOf_247 ⟨Nat.le_of_ble_eq_true rfl, Nat.le_of_ble_eq_true rfl⟩) ?_
    refine lv_bipush (v := 11) hx hb dX8_contextOf_250 (by decide) ?_
    refine lv_ishl hx hb dX8_contextOf_252 ?_
    refine lv_ior hx hb dX8_contextOf_253 ?_
    refine lv_aload_n hx hb dX8_contextOf_254 rfl (lv_at hl 1 rfl) ?_
    refine lv_iload_n hx hb dX8_contextOf_255 rfl (lv_at hl 2 rfl) ?_
    refine lv_aload_n hx hb dX8_contextOf_256 rfl (lv_at hl 1 rfl) ?_
    refine va_get (D := (dC, dI)) (ci := 7) (v := .int p1) (C := RX8) (T := TX8) (N := 31) hx hb hts hiX8 hown hK hP 0 rfl rfl 18 (by decide) (hts (.fieldLink RX8 36 "RefineRegionsModel" "p1" "I") (by decide +kernel)) (fun _ h9 => h9) rfl dX8_contextOf_257 ?_
    refine lv_iadd hx hb dX8_contextOf_260 ?_
    refine lv_iload_n hx hb dX8_contextOf_261 rfl (lv_at hl 3 rfl) ?_
    refine lv_aload_n hx hb dX8_contextOf_262 rfl (lv_at hl 1 rfl) ?_
    refine va_get (D := (dC, dI)) (ci := 7) (v := .int q1) (C := RX8) (T := TX8) (N := 31) hx hb hts hiX8 hown hK hP 0 rfl rfl 19 (by decide) (hts (.fieldLink RX8 39 "RefineRegionsModel" "q1" "I") (by decide +kernel)) (fun _ h9 => h9) rfl dX8_contextOf_263 ?_
    refine lv_iadd hx hb dX8_contextOf_266 ?_
    refine hw_callSe (va_runV (As := [.int (x + p1), .int (y + q1)]) (rest := [.int ((((((((((((sp_px (nI 40) (nI w) (nI h) pf (x - 1) y) ||| ((sp_px (nI 40) (nI w) (nI h) pf (x + 1) (y - 1)) <<< (1 &&& 31))) ||| ((sp_px (nI 40) (nI w) (nI h) pf x (y - 1)) <<< (2 &&& 31))) ||| ((sp_px (nI 40) (nI w) (nI h) pf (x + p0) (y + q0)) <<< (3 &&& 31))) ||| ((sp_rf (nI rwd) (nI rht) rg dx dy (x + 1) (y + 1)) <<< (4 &&& 31))) ||| ((sp_rf (nI rwd) (nI rht) rg dx dy x (y + 1)) <<< (5 &&& 31))) ||| ((sp_rf (nI rwd) (nI rht) rg dx dy (x - 1) (y + 1)) <<< (6 &&& 31))) ||| ((sp_rf (nI rwd) (nI rht) rg dx dy (x + 1) y) <<< (7 &&& 31))) ||| ((sp_rf (nI rwd) (nI rht) rg dx dy x y) <<< (8 &&& 31))) ||| ((sp_rf (nI rwd) (nI rht) rg dx dy (x - 1) y) <<< (9 &&& 31))) ||| ((sp_rf (nI rwd) (nI rht) rg dx dy (x + 1) (y - 1)) <<< (10 &&& 31))) ||| ((sp_rf (nI rwd) (nI rht) rg dx dy x (y - 1)) <<< (11 &&& 31)))]) ⟨hx, hb, hml, hown, hts⟩ (c_X8_referred l dC dI cI cZ cJ m0 m1 m2 m3 m4 m5 m6 th tp ty sf 0 rt dx dy p0 q0 p1 q1 kp w h rwd rht k sk tr co b ma mc mt rg (x + p1) (y + q1) (hrw) (hrh) (hrg)) (cwV 2 hts gX8_contextOf_X8_referred rfl rfl rfl (by decide +kernel) ⟨Nat.le_of_ble_eq_true rfl, Nat.le_of_ble_eq_true rfl⟩) (hw_roV hP hS hk [0, 2] rfl (ci := 7) (q0 := 0) rfl rfl) rfl rfl hl.1 rfl (lv_room (Nat.le_of_ble_eq_true rfl)) dX8_contextOf_267 ⟨Nat.le_of_ble_eq_true rfl, Nat.le_of_ble_eq_true rfl⟩) ?_
    refine lv_bipush (v := 12) hx hb dX8_contextOf_270 (by decide) ?_
    refine lv_ishl hx hb dX8_contextOf_272 ?_
    refine lv_ior hx hb dX8_contextOf_273 ?_
    refine lv_istore_n (lv' := [(3, .int (((((((((((((sp_px (nI 40) (nI w) (nI h) pf (x - 1) y) ||| ((sp_px (nI 40) (nI w) (nI h) pf (x + 1) (y - 1)) <<< (1 &&& 31))) ||| ((sp_px (nI 40) (nI w) (nI h) pf x (y - 1)) <<< (2 &&& 31))) ||| ((sp_px (nI 40) (nI w) (nI h) pf (x + p0) (y + q0)) <<< (3 &&& 31))) ||| ((sp_rf (nI rwd) (nI rht) rg dx dy (x + 1) (y + 1)) <<< (4 &&& 31))) ||| ((sp_rf (nI rwd) (nI rht) rg dx dy x (y + 1)) <<< (5 &&& 31))) ||| ((sp_rf (nI rwd) (nI rht) rg dx dy (x - 1) (y + 1)) <<< (6 &&& 31))) ||| ((sp_rf (nI rwd) (nI rht) rg dx dy (x + 1) y) <<< (7 &&& 31))) ||| ((sp_rf (nI rwd) (nI rht) rg dx dy x y) <<< (8 &&& 31))) ||| ((sp_rf (nI rwd) (nI rht) rg dx dy (x - 1) y) <<< (9 &&& 31))) ||| ((sp_rf (nI rwd) (nI rht) rg dx dy (x + 1) (y - 1)) <<< (10 &&& 31))) ||| ((sp_rf (nI rwd) (nI rht) rg dx dy x (y - 1)) <<< (11 &&& 31))) ||| ((sp_rf (nI rwd) (nI rht) rg dx dy (x + p1) (y + q1)) <<< (12 &&& 31)))), (0, .ref m0), (1, .int x), (2, .int y)]) hx hb dX8_contextOf_274 rfl hl (by decide) rfl (fun ls hl => ?_)
    refine lv_iload_n hx hb dX8_contextOf_275 rfl (lv_at hl 0 rfl) ?_
    exact W.iret (v := ((((((((((((sp_px (nI 40) (nI w) (nI h) pf (x - 1) y) ||| ((sp_px (nI 40) (nI w) (nI h) pf (x + 1) (y - 1)) <<< (1 &&& 31))) ||| ((sp_px (nI 40) (nI w) (nI h) pf x (y - 1)) <<< (2 &&& 31))) ||| ((sp_px (nI 40) (nI w) (nI h) pf (x + p0) (y + q0)) <<< (3 &&& 31))) ||| ((sp_rf (nI rwd) (nI rht) rg dx dy (x + 1) (y + 1)) <<< (4 &&& 31))) ||| ((sp_rf (nI rwd) (nI rht) rg dx dy x (y + 1)) <<< (5 &&& 31))) ||| ((sp_rf (nI rwd) (nI rht) rg dx dy (x - 1) (y + 1)) <<< (6 &&& 31))) ||| ((sp_rf (nI rwd) (nI rht) rg dx dy (x + 1) y) <<< (7 &&& 31))) ||| ((sp_rf (nI rwd) (nI rht) rg dx dy x y) <<< (8 &&& 31))) ||| ((sp_rf (nI rwd) (nI rht) rg dx dy (x - 1) y) <<< (9 &&& 31))) ||| ((sp_rf (nI rwd) (nI rht) rg dx dy (x + 1) (y - 1)) <<< (10 &&& 31))) ||| ((sp_rf (nI rwd) (nI rht) rg dx dy x (y - 1)) <<< (11 &&& 31))) ||| ((sp_rf (nI rwd) (nI rht) rg dx dy (x + p1) (y + q1)) <<< (12 &&& 31))) hx hb hr (fun t ht hW => ⟨((((((((((((sp_px (nI 40) (nI w) (nI h) pf (x - 1) y) ||| ((sp_px (nI 40) (nI w) (nI h) pf (x + 1) (y - 1)) <<< (1 &&& 31))) ||| ((sp_px (nI 40) (nI w) (nI h) pf x (y - 1)) <<< (2 &&& 31))) ||| ((sp_px (nI 40) (nI w) (nI h) pf (x + p0) (y + q0)) <<< (3 &&& 31))) ||| ((sp_rf (nI rwd) (nI rht) rg dx dy (x + 1) (y + 1)) <<< (4 &&& 31))) ||| ((sp_rf (nI rwd) (nI rht) rg dx dy x (y + 1)) <<< (5 &&& 31))) ||| ((sp_rf (nI rwd) (nI rht) rg dx dy (x - 1) (y + 1)) <<< (6 &&& 31))) ||| ((sp_rf (nI rwd) (nI rht) rg dx dy (x + 1) y) <<< (7 &&& 31))) ||| ((sp_rf (nI rwd) (nI rht) rg dx dy x y) <<< (8 &&& 31))) ||| ((sp_rf (nI rwd) (nI rht) rg dx dy (x - 1) y) <<< (9 &&& 31))) ||| ((sp_rf (nI rwd) (nI rht) rg dx dy (x + 1) (y - 1)) <<< (10 &&& 31))) ||| ((sp_rf (nI rwd) (nI rht) rg dx dy x (y - 1)) <<< (11 &&& 31))) ||| ((sp_rf (nI rwd) (nI rht) rg dx dy (x + p1) (y + q1)) <<< (12 &&& 31)), rfl, by unfold sp_cx sp_cb sp_cx0; rw [if_pos (htp.resolve_right c_38)]; simp only [Int32.or_assoc], ht⟩) hS.2.2 dX8_contextOf_276
  · refine lv_iload_n hx hb dX8_contextOf_41 rfl (lv_at hl 0 rfl) ?_
    refine lv_aload_n hx hb dX8_contextOf_42 rfl (lv_at hl 1 rfl) ?_
    refine lv_iload_n hx hb dX8_contextOf_43 rfl (lv_at hl 2 rfl) ?_
    refine lv_iconst (v := 1) hx hb dX8_contextOf_44 (by decide) ?_
    refine lv_isub hx hb dX8_contextOf_45 ?_
    refine lv_iload_n hx hb dX8_contextOf_46 rfl (lv_at hl 3 rfl) ?_
    refine lv_iconst (v := 1) hx hb dX8_contextOf_47 (by decide) ?_
    refine lv_isub hx hb dX8_contextOf_48 ?_
    refine hw_callSe (va_runV (As := [.int (x - 1), .int (y - 1)]) (rest := [.int (((sp_px (nI 40) (nI w) (nI h) pf (x - 1) y) ||| ((sp_px (nI 40) (nI w) (nI h) pf (x + 1) (y - 1)) <<< (1 &&& 31))) ||| ((sp_px (nI 40) (nI w) (nI h) pf x (y - 1)) <<< (2 &&& 31)))]) ⟨hx, hb, hml, hown, hts⟩ (c_X8_pixel_0 l dC dI cI cZ cJ m0 m1 m2 m3 m4 m5 m6 th tp ty sf rt dx dy p0 q0 p1 q1 kp w h rwd rht k sk tr co b ma mc mt pf (x - 1) (y - 1) (hw1) (hh1) (h01)) (cwV 2 hts gX8_contextOf_X8_pixel rfl rfl rfl (by decide +kernel) ⟨Nat.le_of_ble_eq_true rfl, Nat.le_of_ble_eq_true rfl⟩) (hw_roV hP hS hk [0, 1] rfl (ci := 7) (q0 := 0) rfl rfl) rfl rfl hl.1 rfl (lv_room (Nat.le_of_ble_eq_true rfl)) dX8_contextOf_49 ⟨Nat.le_of_ble_eq_true rfl, Nat.le_of_ble_eq_true rfl⟩) ?_
    refine lv_iconst (v := 3) hx hb dX8_contextOf_52 (by decide) ?_
    refine lv_ishl hx hb dX8_contextOf_53 ?_
    refine lv_ior hx hb dX8_contextOf_54 ?_
    refine lv_aload_n hx hb dX8_contextOf_55 rfl (lv_at hl 1 rfl) ?_
    refine lv_iload_n hx hb dX8_contextOf_56 rfl (lv_at hl 2 rfl) ?_
    refine lv_iconst (v := 1) hx hb dX8_contextOf_57 (by decide) ?_
    refine lv_iadd hx hb dX8_contextOf_58 ?_
    refine lv_iload_n hx hb dX8_contextOf_59 rfl (lv_at hl 3 rfl) ?_
    refine lv_iconst (v := 1) hx hb dX8_contextOf_60 (by decide) ?_
    refine lv_iadd hx hb dX8_contextOf_61 ?_
    refine hw_callSe (va_runV (As := [.int (x + 1), .int (y + 1)]) (rest := [.int ((((sp_px (nI 40) (nI w) (nI h) pf (x - 1) y) ||| ((sp_px (nI 40) (nI w) (nI h) pf (x + 1) (y - 1)) <<< (1 &&& 31))) ||| ((sp_px (nI 40) (nI w) (nI h) pf x (y - 1)) <<< (2 &&& 31))) ||| ((sp_px (nI 40) (nI w) (nI h) pf (x - 1) (y - 1)) <<< (3 &&& 31)))]) ⟨hx, hb, hml, hown, hts⟩ (c_X8_referred l dC dI cI cZ cJ m0 m1 m2 m3 m4 m5 m6 th tp ty sf 0 rt dx dy p0 q0 p1 q1 kp w h rwd rht k sk tr co b ma mc mt rg (x + 1) (y + 1) (hrw) (hrh) (hrg)) (cwV 2 hts gX8_contextOf_X8_referred rfl rfl rfl (by decide +kernel) ⟨Nat.le_of_ble_eq_true rfl, Nat.le_of_ble_eq_true rfl⟩) (hw_roV hP hS hk [0, 2] rfl (ci := 7) (q0 := 0) rfl rfl) rfl rfl hl.1 rfl (lv_room (Nat.le_of_ble_eq_true rfl)) dX8_contextOf_62 ⟨Nat.le_of_ble_eq_true rfl, Nat.le_of_ble_eq_true rfl⟩) ?_
    refine lv_iconst (v := 4) hx hb dX8_contextOf_65 (by decide) ?_
    refine lv_ishl hx hb dX8_contextOf_66 ?_
    refine lv_ior hx hb dX8_contextOf_67 ?_
    refine lv_aload_n hx hb dX8_contextOf_68 rfl (lv_at hl 1 rfl) ?_
    refine lv_iload_n hx hb dX8_contextOf_69 rfl (lv_at hl 2 rfl) ?_
    refine lv_iload_n hx hb dX8_contextOf_70 rfl (lv_at hl 3 rfl) ?_
    refine lv_iconst (v := 1) hx hb dX8_contextOf_71 (by decide) ?_
    refine lv_iadd hx hb dX8_contextOf_72 ?_
    refine hw_callSe (va_runV (As := [.int x, .int (y + 1)]) (rest := [.int (((((sp_px (nI 40) (nI w) (nI h) pf (x - 1) y) ||| ((sp_px (nI 40) (nI w) (nI h) pf (x + 1) (y - 1)) <<< (1 &&& 31))) ||| ((sp_px (nI 40) (nI w) (nI h) pf x (y - 1)) <<< (2 &&& 31))) ||| ((sp_px (nI 40) (nI w) (nI h) pf (x - 1) (y - 1)) <<< (3 &&& 31))) ||| ((sp_rf (nI rwd) (nI rht) rg dx dy (x + 1) (y + 1)) <<< (4 &&& 31)))]) ⟨hx, hb, hml, hown, hts⟩ (c_X8_referred l dC dI cI cZ cJ m0 m1 m2 m3 m4 m5 m6 th tp ty sf 0 rt dx dy p0 q0 p1 q1 kp w h rwd rht k sk tr co b ma mc mt rg x (y + 1) (hrw) (hrh) (hrg)) (cwV 2 hts gX8_contextOf_X8_referred rfl rfl rfl (by decide +kernel) ⟨Nat.le_of_ble_eq_true rfl, Nat.le_of_ble_eq_true rfl⟩) (hw_roV hP hS hk [0, 2] rfl (ci := 7) (q0 := 0) rfl rfl) rfl rfl hl.1 rfl (lv_room (Nat.le_of_ble_eq_true rfl)) dX8_contextOf_73 ⟨Nat.le_of_ble_eq_true rfl, Nat.le_of_ble_eq_true rfl⟩) ?_
    refine lv_iconst (v := 5) hx hb dX8_contextOf_76 (by decide) ?_
    refine lv_ishl hx hb dX8_contextOf_77 ?_
    refine lv_ior hx hb dX8_contextOf_78 ?_
    refine lv_istore_n (lv' := [(3, .int ((((((sp_px (nI 40) (nI w) (nI h) pf (x - 1) y) ||| ((sp_px (nI 40) (nI w) (nI h) pf (x + 1) (y - 1)) <<< (1 &&& 31))) ||| ((sp_px (nI 40) (nI w) (nI h) pf x (y - 1)) <<< (2 &&& 31))) ||| ((sp_px (nI 40) (nI w) (nI h) pf (x - 1) (y - 1)) <<< (3 &&& 31))) ||| ((sp_rf (nI rwd) (nI rht) rg dx dy (x + 1) (y + 1)) <<< (4 &&& 31))) ||| ((sp_rf (nI rwd) (nI rht) rg dx dy x (y + 1)) <<< (5 &&& 31)))), (0, .ref m0), (1, .int x), (2, .int y)]) hx hb dX8_contextOf_79 rfl hl (by decide) rfl (fun ls hl => ?_)
    refine lv_iload_n hx hb dX8_contextOf_80 rfl (lv_at hl 0 rfl) ?_
    refine lv_aload_n hx hb dX8_contextOf_81 rfl (lv_at hl 1 rfl) ?_
    refine lv_iload_n hx hb dX8_contextOf_82 rfl (lv_at hl 2 rfl) ?_
    refine lv_iconst (v := 1) hx hb dX8_contextOf_83 (by decide) ?_
    refine lv_iadd hx hb dX8_contextOf_84 ?_
    refine lv_iload_n hx hb dX8_contextOf_85 rfl (lv_at hl 3 rfl) ?_
    refine hw_callSe (va_runV (As := [.int (x + 1), .int y]) (rest := [.int ((((((sp_px (nI 40) (nI w) (nI h) pf (x - 1) y) ||| ((sp_px (nI 40) (nI w) (nI h) pf (x + 1) (y - 1)) <<< (1 &&& 31))) ||| ((sp_px (nI 40) (nI w) (nI h) pf x (y - 1)) <<< (2 &&& 31))) ||| ((sp_px (nI 40) (nI w) (nI h) pf (x - 1) (y - 1)) <<< (3 &&& 31))) ||| ((sp_rf (nI rwd) (nI rht) rg dx dy (x + 1) (y + 1)) <<< (4 &&& 31))) ||| ((sp_rf (nI rwd) (nI rht) rg dx dy x (y + 1)) <<< (5 &&& 31)))]) ⟨hx, hb, hml, hown, hts⟩ (c_X8_referred l dC dI cI cZ cJ m0 m1 m2 m3 m4 m5 m6 th tp ty sf 0 rt dx dy p0 q0 p1 q1 kp w h rwd rht k sk tr co b ma mc mt rg (x + 1) y (hrw) (hrh) (hrg)) (cwV 2 hts gX8_contextOf_X8_referred rfl rfl rfl (by decide +kernel) ⟨Nat.le_of_ble_eq_true rfl, Nat.le_of_ble_eq_true rfl⟩) (hw_roV hP hS hk [0, 2] rfl (ci := 7) (q0 := 0) rfl rfl) rfl rfl hl.1 rfl (lv_room (Nat.le_of_ble_eq_true rfl)) dX8_contextOf_86 ⟨Nat.le_of_ble_eq_true rfl, Nat.le_of_ble_eq_true rfl⟩) ?_
    refine lv_bipush (v := 6) hx hb dX8_contextOf_89 (by decide) ?_
    refine lv_ishl hx hb dX8_contextOf_91 ?_
    refine lv_ior hx hb dX8_contextOf_92 ?_
    refine lv_aload_n hx hb dX8_contextOf_93 rfl (lv_at hl 1 rfl) ?_
    refine lv_iload_n hx hb dX8_contextOf_94 rfl (lv_at hl 2 rfl) ?_
    refine lv_iload_n hx hb dX8_contextOf_95 rfl (lv_at hl 3 rfl) ?_
    refine hw_callSe (va_runV (As := [.int x, .int y]) (rest := [.int (((((((sp_px (nI 40) (nI w) (nI h) pf (x - 1) y) ||| ((sp_px (nI 40) (nI w) (nI h) pf (x + 1) (y - 1)) <<< (1 &&& 31))) ||| ((sp_px (nI 40) (nI w) (nI h) pf x (y - 1)) <<< (2 &&& 31))) ||| ((sp_px (nI 40) (nI w) (nI h) pf (x - 1) (y - 1)) <<< (3 &&& 31))) ||| ((sp_rf (nI rwd) (nI rht) rg dx dy (x + 1) (y + 1)) <<< (4 &&& 31))) ||| ((sp_rf (nI rwd) (nI rht) rg dx dy x (y + 1)) <<< (5 &&& 31))) ||| ((sp_rf (nI rwd) (nI rht) rg dx dy (x + 1) y) <<< (6 &&& 31)))]) ⟨hx, hb, hml, hown, hts⟩ (c_X8_referred l dC dI cI cZ cJ m0 m1 m2 m3 m4 m5 m6 th tp ty sf 0 rt dx dy p0 q0 p1 q1 kp w h rwd rht k sk tr co b ma mc mt rg x y (hrw) (hrh) (hrg)) (cwV 2 hts gX8_contextOf_X8_referred rfl rfl rfl (by decide +kernel) ⟨Nat.le_of_ble_eq_true rfl, Nat.le_of_ble_eq_true rfl⟩) (hw_roV hP hS hk [0, 2] rfl (ci := 7) (q0 := 0) rfl rfl) rfl rfl hl.1 rfl (lv_room (Nat.le_of_ble_eq_true rfl)) dX8_contextOf_96 ⟨Nat.le_of_ble_eq_true rfl, Nat.le_of_ble_eq_true rfl⟩) ?_
    refine lv_bipush (v := 7) hx hb dX8_contextOf_99 (by decide) ?_
    refine lv_ishl hx hb dX8_contextOf_101 ?_
    refine lv_ior hx hb dX8_contextOf_102 ?_
    refine lv_aload_n hx hb dX8_contextOf_103 rfl (lv_at hl 1 rfl) ?_
    refine lv_iload_n hx hb dX8_contextOf_104 rfl (lv_at hl 2 rfl) ?_
    refine lv_iconst (v := 1) hx hb dX8_contextOf_105 (by decide) ?_
    refine lv_isub hx hb dX8_contextOf_106 ?_
    refine lv_iload_n hx hb dX8_contextOf_107 rfl (lv_at hl 3 rfl) ?_
    refine hw_callSe (va_runV (As := [.int (x - 1), .int y]) (rest := [.int ((((((((sp_px (nI 40) (nI w) (nI h) pf (x - 1) y) ||| ((sp_px (nI 40) (nI w) (nI h) pf (x + 1) (y - 1)) <<< (1 &&& 31))) ||| ((sp_px (nI 40) (nI w) (nI h) pf x (y - 1)) <<< (2 &&& 31))) ||| ((sp_px (nI 40) (nI w) (nI h) pf (x - 1) (y - 1)) <<< (3 &&& 31))) ||| ((sp_rf (nI rwd) (nI rht) rg dx dy (x + 1) (y + 1)) <<< (4 &&& 31))) ||| ((sp_rf (nI rwd) (nI rht) rg dx dy x (y + 1)) <<< (5 &&& 31))) ||| ((sp_rf (nI rwd) (nI rht) rg dx dy (x + 1) y) <<< (6 &&& 31))) ||| ((sp_rf (nI rwd) (nI rht) rg dx dy x y) <<< (7 &&& 31)))]) ⟨hx, hb, hml, hown, hts⟩ (c_X8_referred l dC dI cI cZ cJ m0 m1 m2 m3 m4 m5 m6 th tp ty sf 0 rt dx dy p0 q0 p1 q1 kp w h rwd rht k sk tr co b ma mc mt rg (x - 1) y (hrw) (hrh) (hrg)) (cwV 2 hts gX8_contextOf_X8_referred rfl rfl rfl (by decide +kernel) ⟨Nat.le_of_ble_eq_true rfl, Nat.le_of_ble_eq_true rfl⟩) (hw_roV hP hS hk [0, 2] rfl (ci := 7) (q0 := 0) rfl rfl) rfl rfl hl.1 rfl (lv_room (Nat.le_of_ble_eq_true rfl)) dX8_contextOf_108 ⟨Nat.le_of_ble_eq_true rfl, Nat.le_of_ble_eq_true rfl⟩) ?_
    refine lv_bipush (v := 8) hx hb dX8_contextOf_111 (by decide) ?_
    refine lv_ishl hx hb dX8_contextOf_113 ?_
    refine lv_ior hx hb dX8_contextOf_114 ?_
    refine lv_aload_n hx hb dX8_contextOf_115 rfl (lv_at hl 1 rfl) ?_
    refine lv_iload_n hx hb dX8_contextOf_116 rfl (lv_at hl 2 rfl) ?_
    refine lv_iload_n hx hb dX8_contextOf_117 rfl (lv_at hl 3 rfl) ?_
    refine lv_iconst (v := 1) hx hb dX8_contextOf_118 (by decide) ?_
    refine lv_isub hx hb dX8_contextOf_119 ?_
    refine hw_callSe (va_runV (As := [.int x, .int (y - 1)]) (rest := [.int (((((((((sp_px (nI 40) (nI w) (nI h) pf (x - 1) y) ||| ((sp_px (nI 40) (nI w) (nI h) pf (x + 1) (y - 1)) <<< (1 &&& 31))) ||| ((sp_px (nI 40) (nI w) (nI h) pf x (y - 1)) <<< (2 &&& 31))) ||| ((sp_px (nI 40) (nI w) (nI h) pf (x - 1) (y - 1)) <<< (3 &&& 31))) ||| ((sp_rf (nI rwd) (nI rht) rg dx dy (x + 1) (y + 1)) <<< (4 &&& 31))) ||| ((sp_rf (nI rwd) (nI rht) rg dx dy x (y + 1)) <<< (5 &&& 31))) ||| ((sp_rf (nI rwd) (nI rht) rg dx dy (x + 1) y) <<< (6 &&& 31))) ||| ((sp_rf (nI rwd) (nI rht) rg dx dy x y) <<< (7 &&& 31))) ||| ((sp_rf (nI rwd) (nI rht) rg dx dy (x - 1) y) <<< (8 &&& 31)))]) ⟨hx, hb, hml, hown, hts⟩ (c_X8_referred l dC dI cI cZ cJ m0 m1 m2 m3 m4 m5 m6 th tp ty sf 0 rt dx dy p0 q0 p1 q1 kp w h rwd rht k sk tr co b ma mc mt rg x (y - 1) (hrw) (hrh) (hrg)) (cwV 2 hts gX8_contextOf_X8_referred rfl rfl rfl (by decide +kernel) ⟨Nat.le_of_ble_eq_true rfl, Nat.le_of_ble_eq_true rfl⟩) (hw_roV hP hS hk [0, 2] rfl (ci := 7) (q0 := 0) rfl rfl) rfl rfl hl.1 rfl (lv_room (Nat.le_of_ble_eq_true rfl)) dX8_contextOf_120 ⟨Nat.le_of_ble_eq_true rfl, Nat.le_of_ble_eq_true rfl⟩) ?_
    refine lv_bipush (v := 9) hx hb dX8_contextOf_123 (by decide) ?_
    refine lv_ishl hx hb dX8_contextOf_125 ?_
    refine lv_ior hx hb dX8_contextOf_126 ?_
    refine lv_istore_n (lv' := [(3, .int ((((((((((sp_px (nI 40) (nI w) (nI h) pf (x - 1) y) ||| ((sp_px (nI 40) (nI w) (nI h) pf (x + 1) (y - 1)) <<< (1 &&& 31))) ||| ((sp_px (nI 40) (nI w) (nI h) pf x (y - 1)) <<< (2 &&& 31))) ||| ((sp_px (nI 40) (nI w) (nI h) pf (x - 1) (y - 1)) <<< (3 &&& 31))) ||| ((sp_rf (nI rwd) (nI rht) rg dx dy (x + 1) (y + 1)) <<< (4 &&& 31))) ||| ((sp_rf (nI rwd) (nI rht) rg dx dy x (y + 1)) <<< (5 &&& 31))) ||| ((sp_rf (nI rwd) (nI rht) rg dx dy (x + 1) y) <<< (6 &&& 31))) ||| ((sp_rf (nI rwd) (nI rht) rg dx dy x y) <<< (7 &&& 31))) ||| ((sp_rf (nI rwd) (nI rht) rg dx dy (x - 1) y) <<< (8 &&& 31))) ||| ((sp_rf (nI rwd) (nI rht) rg dx dy x (y - 1)) <<< (9 &&& 31)))), (0, .ref m0), (1, .int x), (2, .int y)]) hx hb dX8_contextOf_127 rfl hl (by decide) rfl (fun ls hl => ?_)
    refine lv_iload_n hx hb dX8_contextOf_128 rfl (lv_at hl 0 rfl) ?_
    exact W.iret (v := (((((((((sp_px (nI 40) (nI w) (nI h) pf (x - 1) y) ||| ((sp_px (nI 40) (nI w) (nI h) pf (x + 1) (y - 1)) <<< (1 &&& 31))) ||| ((sp_px (nI 40) (nI w) (nI h) pf x (y - 1)) <<< (2 &&& 31))) ||| ((sp_px (nI 40) (nI w) (nI h) pf (x - 1) (y - 1)) <<< (3 &&& 31))) ||| ((sp_rf (nI rwd) (nI rht) rg dx dy (x + 1) (y + 1)) <<< (4 &&& 31))) ||| ((sp_rf (nI rwd) (nI rht) rg dx dy x (y + 1)) <<< (5 &&& 31))) ||| ((sp_rf (nI rwd) (nI rht) rg dx dy (x + 1) y) <<< (6 &&& 31))) ||| ((sp_rf (nI rwd) (nI rht) rg dx dy x y) <<< (7 &&& 31))) ||| ((sp_rf (nI rwd) (nI rht) rg dx dy (x - 1) y) <<< (8 &&& 31))) ||| ((sp_rf (nI rwd) (nI rht) rg dx dy x (y - 1)) <<< (9 &&& 31))) hx hb hr (fun t ht hW => ⟨(((((((((sp_px (nI 40) (nI w) (nI h) pf (x - 1) y) ||| ((sp_px (nI 40) (nI w) (nI h) pf (x + 1) (y - 1)) <<< (1 &&& 31))) ||| ((sp_px (nI 40) (nI w) (nI h) pf x (y - 1)) <<< (2 &&& 31))) ||| ((sp_px (nI 40) (nI w) (nI h) pf (x - 1) (y - 1)) <<< (3 &&& 31))) ||| ((sp_rf (nI rwd) (nI rht) rg dx dy (x + 1) (y + 1)) <<< (4 &&& 31))) ||| ((sp_rf (nI rwd) (nI rht) rg dx dy x (y + 1)) <<< (5 &&& 31))) ||| ((sp_rf (nI rwd) (nI rht) rg dx dy (x + 1) y) <<< (6 &&& 31))) ||| ((sp_rf (nI rwd) (nI rht) rg dx dy x y) <<< (7 &&& 31))) ||| ((sp_rf (nI rwd) (nI rht) rg dx dy (x - 1) y) <<< (8 &&& 31))) ||| ((sp_rf (nI rwd) (nI rht) rg dx dy x (y - 1)) <<< (9 &&& 31)), rfl, by unfold sp_cx sp_cb sp_cx1; rw [if_neg (by rw [c_38]; decide)]; simp only [Int32.or_assoc], ht⟩) hS.2.2 dX8_contextOf_129

set_option maxHeartbeats 4000000 in
set_option maxRecDepth 100000 in
/-- contextOf(x, y), reading 1 -/
theorem c_X8_contextOf_1 (l : Launch) (dC : Nat → ClassId) (dI : Nat → Nat → Nat) (cI cZ cJ : ClassId) (m0 : Nat) (m1 : Nat) (m2 : Nat) (m3 : Nat) (m4 : Nat) (m5 : Nat) (m6 : Nat) (th : Int32) (tp : Int32) (ty : Int32) (sf : Int32) (rt : Int32) (dx : Int32) (dy : Int32) (p0 : Int32) (q0 : Int32) (p1 : Int32) (q1 : Int32) (kp : Int32) (w : Nat) (h : Nat) (rwd : Nat) (rht : Nat) (k : Nat) (sk : Nat) (tr : Nat) (co : Nat) (b : Nat) (ma : Int64) (mc : Int64) (mt : Int32) (ff : Nat → Int32) (rg : Nat → Int32) (x : Int32) (y : Int32) (hw1 : w ≤ 40) (hh1 : h ≤ 40) (hrw : rwd ≤ 60) (hrh : rht ≤ 60) (h01 : sp_01 ff) (hrg : sp_01 rg) (htp : tp = 0 ∨ tp = 1) : Met l yX8_contextOf wsX8_contextOf ({ frames := 2, cells := 0, slots := 0, locals := 44 }) (hw_Ro (dC, dI) vwCl (ty3 cI cZ cJ) [(m0, .inr (7, [.int th, .ref m1, .int (nI w), .int (nI h), .int tp, .int ty, .ref m2, .ref m3, .int sf, .int 1, .int rt, .int (nI rwd), .int (nI rht), .ref m4, .int dx, .int dy, .int p0, .int q0, .int p1, .int q1, .int kp, .ref m5, .ref m6, .int (nI k), .int (nI sk), .int (nI tr), .int (nI co), .long ma, .long mc, .int mt, .int (nI b)])), (m3, .inl (cZ, 1600, .inl ff)), (m4, .inl (cZ, 3600, .inl rg))] [.ref m0, .int x, .int y]) (vp_Si (fun r => r = sp_cx tp p0 q0 p1 q1 (sp_px (nI 40) (nI w) (nI h) ff) (sp_rf (nI rwd) (nI rht) rg dx dy) x y)) 0 0 (fun _ => False) := by
  refine Met.ofW (cc := cX8_contextOf) (maxL := 4) (ret := (some .int)) (by decide) rfl ?_
  intro pg ev s m args below meth cd s₁ B hml hv
  obtain ⟨rfl, hP, hK, hN, hZ⟩ := hv
  have hx := B.exec
  have hb := B.bytes
  have hr := B.returns
  have hts := atoms_spec (ws := wsX8_contextOf) B.pre
  have hown : s.vm.findClass RX8 = some m.cls := findClass_of_methodNamed B.named
  have hlocks := B.notSynchronized
  have hS : va_S (fun _ => False) s.heap s.heap [] := va_S.rf
  have hk : hw_K (dC, dI) vwCl (ty3 cI cZ cJ) (fun _ => False) s := ⟨hK, hN, hZ⟩
  have hiX8 : ∀ w ∈ u_ws RX8 TX8 31, w ∈ wsX8_contextOf := by decide +kernel
  have hl := lv_entry ([.ref m0, .int x, .int y]) (n := 4) (Nat.le_of_ble_eq_true rfl)
  rw [lg_entry_eq]
  generalize (lg_sl ([.ref m0, .int x, .int y]) ++ List.replicate (4 - (lg_sl ([.ref m0, .int x, .int y])).length) Slot.unset).toArray = ls at hl ⊢
  have hl : lv_has ls 4 [(0, .ref m0), (1, .int x), (2, .int y)] := hl
  refine lv_aload_n hx hb dX8_contextOf_0 rfl (lv_at hl 0 rfl) ?_
  refine lv_iload_n hx hb dX8_contextOf_1 rfl (lv_at hl 1 rfl) ?_
  refine lv_iconst (v := 1) hx hb dX8_contextOf_2 (by decide) ?_
  refine lv_isub hx hb dX8_contextOf_3 ?_
  refine lv_iload_n hx hb dX8_contextOf_4 rfl (lv_at hl 2 rfl) ?_
  refine hw_callSe (va_runV (As := [.int (x - 1), .int y]) (rest := []) ⟨hx, hb, hml, hown, hts⟩ (c_X8_pixel_1 l dC dI cI cZ cJ m0 m1 m2 m3 m4 m5 m6 th tp ty sf rt dx dy p0 q0 p1 q1 kp w h rwd rht k sk tr co b ma mc mt ff (x - 1) y (hw1) (hh1) (h01)) (cwV 2 hts gX8_contextOf_X8_pixel rfl rfl rfl (by decide +kernel) ⟨Nat.le_of_ble_eq_true rfl, Nat.le_of_ble_eq_true rfl⟩) (hw_roV hP hS hk [0, 1] rfl (ci := 7) (q0 := 0) rfl rfl) rfl rfl hl.1 rfl (lv_room (Nat.le_of_ble_eq_true rfl)) dX8_contextOf_5 ⟨Nat.le_of_ble_eq_true rfl, Nat.le_of_ble_eq_true rfl⟩) ?_
  refine lv_aload_n hx hb dX8_contextOf_8 rfl (lv_at hl 0 rfl) ?_
  refine lv_iload_n hx hb dX8_contextOf_9 rfl (lv_at hl 1 rfl) ?_
  refine lv_iconst (v := 1) hx hb dX8_contextOf_10 (by decide) ?_
  refine lv_iadd hx hb dX8_contextOf_11 ?_
  refine lv_iload_n hx hb dX8_contextOf_12 rfl (lv_at hl 2 rfl) ?_
  refine lv_iconst (v := 1) hx hb dX8_contextOf_13 (by decide) ?_
  refine lv_isub hx hb dX8_contextOf_14 ?_
  refine hw_callSe (va_runV (As := [.int (x + 1), .int (y - 1)]) (rest := [.int (sp_px (nI 40) (nI w) (nI h) ff (x - 1) y)]) ⟨hx, hb, hml, hown, hts⟩ (c_X8_pixel_1 l dC dI cI cZ cJ m0 m1 m2 m3 m4 m5 m6 th tp ty sf rt dx dy p0 q0 p1 q1 kp w h rwd rht k sk tr co b ma mc mt ff (x + 1) (y - 1) (hw1) (hh1) (h01)) (cwV 2 hts gX8_contextOf_X8_pixel rfl rfl rfl (by decide +kernel) ⟨Nat.le_of_ble_eq_true rfl, Nat.le_of_ble_eq_true rfl⟩) (hw_roV hP hS hk [0, 1] rfl (ci := 7) (q0 := 0) rfl rfl) rfl rfl hl.1 rfl (lv_room (Nat.le_of_ble_eq_true rfl)) dX8_contextOf_15 ⟨Nat.le_of_ble_eq_true rfl, Nat.le_of_ble_eq_true rfl⟩) ?_
  refine lv_iconst (v := 1) hx hb dX8_contextOf_18 (by decide) ?_
  refine lv_ishl hx hb dX8_contextOf_19 ?_
  refine lv_ior hx hb dX8_contextOf_20 ?_
  refine lv_aload_n hx hb dX8_contextOf_21 rfl (lv_at hl 0 rfl) ?_
  refine lv_iload_n hx hb dX8_contextOf_22 rfl (lv_at hl 1 rfl) ?_
  refine lv_iload_n hx hb dX8_contextOf_23 rfl (lv_at hl 2 rfl) ?_
  refine lv_iconst (v := 1) hx hb dX8_contextOf_24 (by decide) ?_
  refine lv_isub hx hb dX8_contextOf_25 ?_
  refine hw_callSe (va_runV (As := [.int x, .int (y - 1)]) (rest := [.int ((sp_px (nI 40) (nI w) (nI h) ff (x - 1) y) ||| ((sp_px (nI 40) (nI w) (nI h) ff (x + 1) (y - 1)) <<< (1 &&& 31)))]) ⟨hx, hb, hml, hown, hts⟩ (c_X8_pixel_1 l dC dI cI cZ cJ m0 m1 m2 m3 m4 m5 m6 th tp ty sf rt dx dy p0 q0 p1 q1 kp w h rwd rht k sk tr co b ma mc mt ff x (y - 1) (hw1) (hh1) (h01)) (cwV 2 hts gX8_contextOf_X8_pixel rfl rfl rfl (by decide +kernel) ⟨Nat.le_of_ble_eq_true rfl, Nat.le_of_ble_eq_true rfl⟩) (hw_roV hP hS hk [0, 1] rfl (ci := 7) (q0 := 0) rfl rfl) rfl rfl hl.1 rfl (lv_room (Nat.le_of_ble_eq_true rfl)) dX8_contextOf_26 ⟨Nat.le_of_ble_eq_true rfl, Nat.le_of_ble_eq_true rfl⟩) ?_
  refine lv_iconst (v := 2) hx hb dX8_contextOf_29 (by decide) ?_
  refine lv_ishl hx hb dX8_contextOf_30 ?_
  refine lv_ior hx hb dX8_contextOf_31 ?_
  refine lv_istore_n (lv' := [(3, .int (((sp_px (nI 40) (nI w) (nI h) ff (x - 1) y) ||| ((sp_px (nI 40) (nI w) (nI h) ff (x + 1) (y - 1)) <<< (1 &&& 31))) ||| ((sp_px (nI 40) (nI w) (nI h) ff x (y - 1)) <<< (2 &&& 31)))), (0, .ref m0), (1, .int x), (2, .int y)]) hx hb dX8_contextOf_32 rfl hl (by decide) rfl (fun ls hl => ?_)
  refine lv_aload_n hx hb dX8_contextOf_33 rfl (lv_at hl 1 rfl) ?_
  refine va_get (D := (dC, dI)) (ci := 7) (v := .int tp) (C := RX8) (T := TX8) (N := 31) hx hb hts hiX8 hown hK hP 0 rfl rfl 4 (by decide) (hts (.fieldLink RX8 51 "RefineRegionsModel" "template" "I") (by decide +kernel)) (fun _ h9 => h9) rfl dX8_contextOf_34 ?_
  refine lv_iconst (v := 1) hx hb dX8_contextOf_37 (by decide) ?_
  refine lv_icmp_ne (tgt := 130) hx hb dX8_contextOf_38 (by decide) (fun c_38 => ?_) (fun c_38 => ?_)
  · refine lv_iload_n hx hb dX8_contextOf_130 rfl (lv_at hl 0 rfl) ?_
    refine lv_aload_n hx hb dX8_contextOf_131 rfl (lv_at hl 1 rfl) ?_
    refine lv_iload_n hx hb dX8_contextOf_132 rfl (lv_at hl 2 rfl) ?_
    refine lv_aload_n hx hb dX8_contextOf_133 rfl (lv_at hl 1 rfl) ?_
    refine va_get (D := (dC, dI)) (ci := 7) (v := .int p0) (C := RX8) (T := TX8) (N := 31) hx hb hts hiX8 hown hK hP 0 rfl rfl 16 (by decide) (hts (.fieldLink RX8 30 "RefineRegionsModel" "p0" "I") (by decide +kernel)) (fun _ h9 => h9) rfl dX8_contextOf_134 ?_
    refine lv_iadd hx hb dX8_contextOf_137 ?_
    refine lv_iload_n hx hb dX8_contextOf_138 rfl (lv_at hl 3 rfl) ?_
    refine lv_aload_n hx hb dX8_contextOf_139 rfl (lv_at hl 1 rfl) ?_
    refine va_get (D := (dC, dI)) (ci := 7) (v := .int q0) (C := RX8) (T := TX8) (N := 31) hx hb hts hiX8 hown hK hP 0 rfl rfl 17 (by decide) (hts (.fieldLink RX8 33 "RefineRegionsModel" "q0" "I") (by decide +kernel)) (fun _ h9 => h9) rfl dX8_contextOf_140 ?_
    refine lv_iadd hx hb dX8_contextOf_143 ?_
    refine hw_callSe (va_runV (As := [.int (x + p0), .int (y + q0)]) (rest := [.int (((sp_px (nI 40) (nI w) (nI h) ff (x - 1) y) ||| ((sp_px (nI 40) (nI w) (nI h) ff (x + 1) (y - 1)) <<< (1 &&& 31))) ||| ((sp_px (nI 40) (nI w) (nI h) ff x (y - 1)) <<< (2 &&& 31)))]) ⟨hx, hb, hml, hown, hts⟩ (c_X8_pixel_1 l dC dI cI cZ cJ m0 m1 m2 m3 m4 m5 m6 th tp ty sf rt dx dy p0 q0 p1 q1 kp w h rwd rht k sk tr co b ma mc mt ff (x + p0) (y + q0) (hw1) (hh1) (h01)) (cwV 2 hts gX8_contextOf_X8_pixel rfl rfl rfl (by decide +kernel) ⟨Nat.le_of_ble_eq_true rfl, Nat.le_of_ble_eq_true rfl⟩) (hw_roV hP hS hk [0, 1] rfl (ci := 7) (q0 := 0) rfl rfl) rfl rfl hl.1 rfl (lv_room (Nat.le_of_ble_eq_true rfl)) dX8_contextOf_144 ⟨Nat.le_of_ble_eq_true rfl, Nat.le_of_ble_eq_true rfl⟩) ?_
    refine lv_iconst (v := 3) hx hb dX8_contextOf_147 (by decide) ?_
    refine lv_ishl hx hb dX8_contextOf_148 ?_
    refine lv_ior hx hb dX8_contextOf_149 ?_
    refine lv_istore_n (lv' := [(3, .int ((((sp_px (nI 40) (nI w) (nI h) ff (x - 1) y) ||| ((sp_px (nI 40) (nI w) (nI h) ff (x + 1) (y - 1)) <<< (1 &&& 31))) ||| ((sp_px (nI 40) (nI w) (nI h) ff x (y - 1)) <<< (2 &&& 31))) ||| ((sp_px (nI 40) (nI w) (nI h) ff (x + p0) (y + q0)) <<< (3 &&& 31)))), (0, .ref m0), (1, .int x), (2, .int y)]) hx hb dX8_contextOf_150 rfl hl (by decide) rfl (fun ls hl => ?_)
    refine lv_iload_n hx hb dX8_contextOf_151 rfl (lv_at hl 0 rfl) ?_
    refine lv_aload_n hx hb dX8_contextOf_152 rfl (lv_at hl 1 rfl) ?_
    refine lv_iload_n hx hb dX8_contextOf_153 rfl (lv_at hl 2 rfl) ?_
    refine lv_iconst (v := 1) hx hb dX8_contextOf_154 (by decide) ?_
    refine lv_iadd hx hb dX8_contextOf_155 ?_
    refine lv_iload_n hx hb dX8_contextOf_156 rfl (lv_at hl 3 rfl) ?_
    refine lv_iconst (v := 1) hx hb dX8_contextOf_157 (by decide) ?_
    refine lv_iadd hx hb dX8_contextOf_158 ?_
    refine hw_callSe (va_runV (As := [.int (x + 1), .int (y + 1)]) (rest := [.int ((((sp_px (nI 40) (nI w) (nI h) ff (x - 1) y) ||| ((sp_px (nI 40) (nI w) (nI h) ff (x + 1) (y - 1)) <<< (1 &&& 31))) ||| ((sp_px (nI 40) (nI w) (nI h) ff x (y - 1)) <<< (2 &&& 31))) ||| ((sp_px (nI 40) (nI w) (nI h) ff (x + p0) (y + q0)) <<< (3 &&& 31)))]) ⟨hx, hb, hml, hown, hts⟩ (c_X8_referred l dC dI cI cZ cJ m0 m1 m2 m3 m4 m5 m6 th tp ty sf 1 rt dx dy p0 q0 p1 q1 kp w h rwd rht k sk tr co b ma mc mt rg (x + 1) (y + 1) (hrw) (hrh) (hrg)) (cwV 2 hts gX8_contextOf_X8_referred rfl rfl rfl (by decide +kernel) ⟨Nat.le_of_ble_eq_true rfl, Nat.le_of_ble_eq_true rfl⟩) (hw_roV hP hS hk [0, 2] rfl (ci := 7) (q0 := 0) rfl rfl) rfl rfl hl.1 rfl (lv_room (Nat.le_of_ble_eq_true rfl)) dX8_contextOf_159 ⟨Nat.le_of_ble_eq_true rfl, Nat.le_of_ble_eq_true rfl⟩) ?_
    refine lv_iconst (v := 4) hx hb dX8_contextOf_162 (by decide) ?_
    refine lv_ishl hx hb dX8_contextOf_163 ?_
    refine lv_ior hx hb dX8_contextOf_164 ?_
    refine lv_aload_n hx hb dX8_contextOf_165 rfl (lv_at hl 1 rfl) ?_
    refine lv_iload_n hx hb dX8_contextOf_166 rfl (lv_at hl 2 rfl) ?_
    refine lv_iload_n hx hb dX8_contextOf_167 rfl (lv_at hl 3 rfl) ?_
    refine lv_iconst (v := 1) hx hb dX8_contextOf_168 (by decide) ?_
    refine lv_iadd hx hb dX8_contextOf_169 ?_
    refine hw_callSe (va_runV (As := [.int x, .int (y + 1)]) (rest := [.int (((((sp_px (nI 40) (nI w) (nI h) ff (x - 1) y) ||| ((sp_px (nI 40) (nI w) (nI h) ff (x + 1) (y - 1)) <<< (1 &&& 31))) ||| ((sp_px (nI 40) (nI w) (nI h) ff x (y - 1)) <<< (2 &&& 31))) ||| ((sp_px (nI 40) (nI w) (nI h) ff (x + p0) (y + q0)) <<< (3 &&& 31))) ||| ((sp_rf (nI rwd) (nI rht) rg dx dy (x + 1) (y + 1)) <<< (4 &&& 31)))]) ⟨hx, hb, hml, hown, hts⟩ (c_X8_referred l dC dI cI cZ cJ m0 m1 m2 m3 m4 m5 m6 th tp ty sf 1 rt dx dy p0 q0 p1 q1 kp w h rwd rht k sk tr co b ma mc mt rg x (y + 1) (hrw) (hrh) (hrg)) (cwV 2 hts gX8_contextOf_X8_referred rfl rfl rfl (by decide +kernel) ⟨Nat.le_of_ble_eq_true rfl, Nat.le_of_ble_eq_true rfl⟩) (hw_roV hP hS hk [0, 2] rfl (ci := 7) (q0 := 0) rfl rfl) rfl rfl hl.1 rfl (lv_room (Nat.le_of_ble_eq_true rfl)) dX8_contextOf_170 ⟨Nat.le_of_ble_eq_true rfl, Nat.le_of_ble_eq_true rfl⟩) ?_
    refine lv_iconst (v := 5) hx hb dX8_contextOf_173 (by decide) ?_
    refine lv_ishl hx hb dX8_contextOf_174 ?_
    refine lv_ior hx hb dX8_contextOf_175 ?_
    refine lv_aload_n hx hb dX8_contextOf_176 rfl (lv_at hl 1 rfl) ?_
    refine lv_iload_n hx hb dX8_contextOf_177 rfl (lv_at hl 2 rfl) ?_
    refine lv_iconst (v := 1) hx hb dX8_contextOf_178 (by decide) ?_
    refine lv_isub hx hb dX8_contextOf_179 ?_
    refine lv_iload_n hx hb dX8_contextOf_180 rfl (lv_at hl 3 rfl) ?_
    refine lv_iconst (v := 1) hx hb dX8_contextOf_181 (by decide) ?_
    refine lv_iadd hx hb dX8_contextOf_182 ?_
    refine hw_callSe (va_runV (As := [.int (x - 1), .int (y + 1)]) (rest := [.int ((((((sp_px (nI 40) (nI w) (nI h) ff (x - 1) y) ||| ((sp_px (nI 40) (nI w) (nI h) ff (x + 1) (y - 1)) <<< (1 &&& 31))) ||| ((sp_px (nI 40) (nI w) (nI h) ff x (y - 1)) <<< (2 &&& 31))) ||| ((sp_px (nI 40) (nI w) (nI h) ff (x + p0) (y + q0)) <<< (3 &&& 31))) ||| ((sp_rf (nI rwd) (nI rht) rg dx dy (x + 1) (y + 1)) <<< (4 &&& 31))) ||| ((sp_rf (nI rwd) (nI rht) rg dx dy x (y + 1)) <<< (5 &&& 31)))]) ⟨hx, hb, hml, hown, hts⟩ (c_X8_referred l dC dI cI cZ cJ m0 m1 m2 m3 m4 m5 m6 th tp ty sf 1 rt dx dy p0 q0 p1 q1 kp w h rwd rht k sk tr co b ma mc mt rg (x - 1) (y + 1) (hrw) (hrh) (hrg)) (cwV 2 hts gX8_contextOf_X8_referred rfl rfl rfl (by decide +kernel) ⟨Nat.le_of_ble_eq_true rfl, Nat.le_of_ble_eq_true rfl⟩) (hw_roV hP hS hk [0, 2] rfl (ci := 7) (q0 := 0) rfl rfl) rfl rfl hl.1 rfl (lv_room (Nat.le_of_ble_eq_true rfl)) dX8_contextOf_183 ⟨Nat.le_of_ble_eq_true rfl, Nat.le_of_ble_eq_true rfl⟩) ?_
    refine lv_bipush (v := 6) hx hb dX8_contextOf_186 (by decide) ?_
    refine lv_ishl hx hb dX8_contextOf_188 ?_
    refine lv_ior hx hb dX8_contextOf_189 ?_
    refine lv_istore_n (lv' := [(3, .int (((((((sp_px (nI 40) (nI w) (nI h) ff (x - 1) y) ||| ((sp_px (nI 40) (nI w) (nI h) ff (x + 1) (y - 1)) <<< (1 &&& 31))) ||| ((sp_px (nI 40) (nI w) (nI h) ff x (y - 1)) <<< (2 &&& 31))) ||| ((sp_px (nI 40) (nI w) (nI h) ff (x + p0) (y + q0)) <<< (3 &&& 31))) ||| ((sp_rf (nI rwd) (nI rht) rg dx dy (x + 1) (y + 1)) <<< (4 &&& 31))) ||| ((sp_rf (nI rwd) (nI rht) rg dx dy x (y + 1)) <<< (5 &&& 31))) ||| ((sp_rf (nI rwd) (nI rht) rg dx dy (x - 1) (y + 1)) <<< (6 &&& 31)))), (0, .ref m0), (1, .int x), (2, .int y)]) hx hb dX8_contextOf_190 rfl hl (by decide) rfl (fun ls hl => ?_)
    refine lv_iload_n hx hb dX8_contextOf_191 rfl (lv_at hl 0 rfl) ?_
    refine lv_aload_n hx hb dX8_contextOf_192 rfl (lv_at hl 1 rfl) ?_
    refine lv_iload_n hx hb dX8_contextOf_193 rfl (lv_at hl 2 rfl) ?_
    refine lv_iconst (v := 1) hx hb dX8_contextOf_194 (by decide) ?_
    refine lv_iadd hx hb dX8_contextOf_195 ?_
    refine lv_iload_n hx hb dX8_contextOf_196 rfl (lv_at hl 3 rfl) ?_
    refine hw_callSe (va_runV (As := [.int (x + 1), .int y]) (rest := [.int (((((((sp_px (nI 40) (nI w) (nI h) ff (x - 1) y) ||| ((sp_px (nI 40) (nI w) (nI h) ff (x + 1) (y - 1)) <<< (1 &&& 31))) ||| ((sp_px (nI 40) (nI w) (nI h) ff x (y - 1)) <<< (2 &&& 31))) ||| ((sp_px (nI 40) (nI w) (nI h) ff (x + p0) (y + q0)) <<< (3 &&& 31))) ||| ((sp_rf (nI rwd) (nI rht) rg dx dy (x + 1) (y + 1)) <<< (4 &&& 31))) ||| ((sp_rf (nI rwd) (nI rht) rg dx dy x (y + 1)) <<< (5 &&& 31))) ||| ((sp_rf (nI rwd) (nI rht) rg dx dy (x - 1) (y + 1)) <<< (6 &&& 31)))]) ⟨hx, hb, hml, hown, hts⟩ (c_X8_referred l dC dI cI cZ cJ m0 m1 m2 m3 m4 m5 m6 th tp ty sf 1 rt dx dy p0 q0 p1 q1 kp w h rwd rht k sk tr co b ma mc mt rg (x + 1) y (hrw) (hrh) (hrg)) (cwV 2 hts gX8_contextOf_X8_referred rfl rfl rfl (by decide +kernel) ⟨Nat.le_of_ble_eq_true rfl, Nat.le_of_ble_eq_true rfl⟩) (hw_roV hP hS hk [0, 2] rfl (ci := 7) (q0 := 0) rfl rfl) rfl rfl hl.1 rfl (lv_room (Nat.le_of_ble_eq_true rfl)) dX8_contextOf_197 ⟨Nat.le_of_ble_eq_true rfl, Nat.le_of_ble_eq_true rfl⟩) ?_
    refine lv_bipush (v := 7) hx hb dX8_contextOf_200 (by decide) ?_
    refine lv_ishl hx hb dX8_contextOf_202 ?_
    refine lv_ior hx hb dX8_contextOf_203 ?_
    refine lv_aload_n hx hb dX8_contextOf_204 rfl (lv_at hl 1 rfl) ?_
    refine lv_iload_n hx hb dX8_contextOf_205 rfl (lv_at hl 2 rfl) ?_
    refine lv_iload_n hx hb dX8_contextOf_206 rfl (lv_at hl 3 rfl) ?_
    refine hw_callSe (va_runV (As := [.int x, .int y]) (rest := [.int ((((((((sp_px (nI 40) (nI w) (nI h) ff (x - 1) y) ||| ((sp_px (nI 40) (nI w) (nI h) ff (x + 1) (y - 1)) <<< (1 &&& 31))) ||| ((sp_px (nI 40) (nI w) (nI h) ff x (y - 1)) <<< (2 &&& 31))) ||| ((sp_px (nI 40) (nI w) (nI h) ff (x + p0) (y + q0)) <<< (3 &&& 31))) ||| ((sp_rf (nI rwd) (nI rht) rg dx dy (x + 1) (y + 1)) <<< (4 &&& 31))) ||| ((sp_rf (nI rwd) (nI rht) rg dx dy x (y + 1)) <<< (5 &&& 31))) ||| ((sp_rf (nI rwd) (nI rht) rg dx dy (x - 1) (y + 1)) <<< (6 &&& 31))) ||| ((sp_rf (nI rwd) (nI rht) rg dx dy (x + 1) y) <<< (7 &&& 31)))]) ⟨hx, hb, hml, hown, hts⟩ (c_X8_referred l dC dI cI cZ cJ m0 m1 m2 m3 m4 m5 m6 th tp ty sf 1 rt dx dy p0 q0 p1 q1 kp w h rwd rht k sk tr co b ma mc mt rg x y (hrw) (hrh) (hrg)) (cwV 2 hts gX8_contextOf_X8_referred rfl rfl rfl (by decide +kernel) ⟨Nat.le_of_ble_eq_true rfl, Nat.le_of_ble_eq_true rfl⟩) (hw_roV hP hS hk [0, 2] rfl (ci := 7) (q0 := 0) rfl rfl) rfl rfl hl.1 rfl (lv_room (Nat.le_of_ble_eq_true rfl)) dX8_contextOf_207 ⟨Nat.le_of_ble_eq_true rfl, Nat.le_of_ble_eq_true rfl⟩) ?_
    refine lv_bipush (v := 8) hx hb dX8_contextOf_210 (by decide) ?_
    refine lv_ishl hx hb dX8_contextOf_212 ?_
    refine lv_ior hx hb dX8_contextOf_213 ?_
    refine lv_aload_n hx hb dX8_contextOf_214 rfl (lv_at hl 1 rfl) ?_
    refine lv_iload_n hx hb dX8_contextOf_215 rfl (lv_at hl 2 rfl) ?_
    refine lv_iconst (v := 1) hx hb dX8_contextOf_216 (by decide) ?_
    refine lv_isub hx hb dX8_contextOf_217 ?_
    refine lv_iload_n hx hb dX8_contextOf_218 rfl (lv_at hl 3 rfl) ?_
    refine hw_callSe (va_runV (As := [.int (x - 1), .int y]) (rest := [.int (((((((((sp_px (nI 40) (nI w) (nI h) ff (x - 1) y) ||| ((sp_px (nI 40) (nI w) (nI h) ff (x + 1) (y - 1)) <<< (1 &&& 31))) ||| ((sp_px (nI 40) (nI w) (nI h) ff x (y - 1)) <<< (2 &&& 31))) ||| ((sp_px (nI 40) (nI w) (nI h) ff (x + p0) (y + q0)) <<< (3 &&& 31))) ||| ((sp_rf (nI rwd) (nI rht) rg dx dy (x + 1) (y + 1)) <<< (4 &&& 31))) ||| ((sp_rf (nI rwd) (nI rht) rg dx dy x (y + 1)) <<< (5 &&& 31))) ||| ((sp_rf (nI rwd) (nI rht) rg dx dy (x - 1) (y + 1)) <<< (6 &&& 31))) ||| ((sp_rf (nI rwd) (nI rht) rg dx dy (x + 1) y) <<< (7 &&& 31))) ||| ((sp_rf (nI rwd) (nI rht) rg dx dy x y) <<< (8 &&& 31)))]) ⟨hx, hb, hml, hown, hts⟩ (c_X8_referred l dC dI cI cZ cJ m0 m1 m2 m3 m4 m5 m6 th tp ty sf 1 rt dx dy p0 q0 p1 q1 kp w h rwd rht k sk tr co b ma mc mt rg (x - 1) y (hrw) (hrh) (hrg)) (cwV 2 hts gX8_contextOf_X8_referred rfl rfl rfl (by decide +kernel) ⟨Nat.le_of_ble_eq_true rfl, Nat.le_of_ble_eq_true rfl⟩) (hw_roV hP hS hk [0, 2] rfl (ci := 7) (q0 := 0) rfl rfl) rfl rfl hl.1 rfl (lv_room (Nat.le_of_ble_eq_true rfl)) dX8_contextOf_219 ⟨Nat.le_of_ble_eq_true rfl, Nat.le_of_ble_eq_true rfl⟩) ?_
    refine lv_bipush (v := 9) hx hb dX8_contextOf_222 (by decide) ?_
    refine lv_ishl hx hb dX8_contextOf_224 ?_
    refine lv_ior hx hb dX8_contextOf_225 ?_
    refine lv_istore_n (lv' := [(3, .int ((((((((((sp_px (nI 40) (nI w) (nI h) ff (x - 1) y) ||| ((sp_px (nI 40) (nI w) (nI h) ff (x + 1) (y - 1)) <<< (1 &&& 31))) ||| ((sp_px (nI 40) (nI w) (nI h) ff x (y - 1)) <<< (2 &&& 31))) ||| ((sp_px (nI 40) (nI w) (nI h) ff (x + p0) (y + q0)) <<< (3 &&& 31))) ||| ((sp_rf (nI rwd) (nI rht) rg dx dy (x + 1) (y + 1)) <<< (4 &&& 31))) ||| ((sp_rf (nI rwd) (nI rht) rg dx dy x (y + 1)) <<< (5 &&& 31))) ||| ((sp_rf (nI rwd) (nI rht) rg dx dy (x - 1) (y + 1)) <<< (6 &&& 31))) ||| ((sp_rf (nI rwd) (nI rht) rg dx dy (x + 1) y) <<< (7 &&& 31))) ||| ((sp_rf (nI rwd) (nI rht) rg dx dy x y) <<< (8 &&& 31))) ||| ((sp_rf (nI rwd) (nI rht) rg dx dy (x - 1) y) <<< (9 &&& 31)))), (0, .ref m0), (1, .int x), (2, .int y)]) hx hb dX8_contextOf_226 rfl hl (by decide) rfl (fun ls hl => ?_)
    refine lv_iload_n hx hb dX8_contextOf_227 rfl (lv_at hl 0 rfl) ?_
    refine lv_aload_n hx hb dX8_contextOf_228 rfl (lv_at hl 1 rfl) ?_
    refine lv_iload_n hx hb dX8_contextOf_229 rfl (lv_at hl 2 rfl) ?_
    refine lv_iconst (v := 1) hx hb dX8_contextOf_230 (by decide) ?_
    refine lv_iadd hx hb dX8_contextOf_231 ?_
    refine lv_iload_n hx hb dX8_contextOf_232 rfl (lv_at hl 3 rfl) ?_
    refine lv_iconst (v := 1) hx hb dX8_contextOf_233 (by decide) ?_
    refine lv_isub hx hb dX8_contextOf_234 ?_
    refine hw_callSe (va_runV (As := [.int (x + 1), .int (y - 1)]) (rest := [.int ((((((((((sp_px (nI 40) (nI w) (nI h) ff (x - 1) y) ||| ((sp_px (nI 40) (nI w) (nI h) ff (x + 1) (y - 1)) <<< (1 &&& 31))) ||| ((sp_px (nI 40) (nI w) (nI h) ff x (y - 1)) <<< (2 &&& 31))) ||| ((sp_px (nI 40) (nI w) (nI h) ff (x + p0) (y + q0)) <<< (3 &&& 31))) ||| ((sp_rf (nI rwd) (nI rht) rg dx dy (x + 1) (y + 1)) <<< (4 &&& 31))) ||| ((sp_rf (nI rwd) (nI rht) rg dx dy x (y + 1)) <<< (5 &&& 31))) ||| ((sp_rf (nI rwd) (nI rht) rg dx dy (x - 1) (y + 1)) <<< (6 &&& 31))) ||| ((sp_rf (nI rwd) (nI rht) rg dx dy (x + 1) y) <<< (7 &&& 31))) ||| ((sp_rf (nI rwd) (nI rht) rg dx dy x y) <<< (8 &&& 31))) ||| ((sp_rf (nI rwd) (nI rht) rg dx dy (x - 1) y) <<< (9 &&& 31)))]) ⟨hx, hb, hml, hown, hts⟩ (c_X8_referred l dC dI cI cZ cJ m0 m1 m2 m3 m4 m5 m6 th tp ty sf 1 rt dx dy p0 q0 p1 q1 kp w h rwd rht k sk tr co b ma mc mt rg (x + 1) (y - 1) (hrw) (hrh) (hrg)) (cwV 2 hts gX8_contextOf_X8_referred rfl rfl rfl (by decide +kernel) ⟨Nat.le_of_ble_eq_true rfl, Nat.le_of_ble_eq_true rfl⟩) (hw_roV hP hS hk [0, 2] rfl (ci := 7) (q0 := 0) rfl rfl) rfl rfl hl.1 rfl (lv_room (Nat.le_of_ble_eq_true rfl)) dX8_contextOf_235 ⟨Nat.le_of_ble_eq_true rfl, Nat.le_of_ble_eq_true rfl⟩) ?_
    refine lv_bipush (v := 10) hx hb dX8_contextOf_238 (by decide) ?_
    refine lv_ishl hx hb dX8_contextOf_240 ?_
    refine lv_ior hx hb dX8_contextOf_241 ?_
    refine lv_aload_n hx hb dX8_contextOf_242 rfl (lv_at hl 1 rfl) ?_
    refine lv_iload_n hx hb dX8_contextOf_243 rfl (lv_at hl 2 rfl) ?_
    refine lv_iload_n hx hb dX8_contextOf_244 rfl (lv_at hl 3 rfl) ?_
    refine lv_iconst (v := 1) hx hb dX8_contextOf_245 (by decide) ?_
    refine lv_isub hx hb dX8_contextOf_246 ?_
    refine hw_callSe (va_runV (As := [.int x, .int (y - 1)]) (rest := [.int (((((((((((sp_px (nI 40) (nI w) (nI h) ff (x - 1) y) ||| ((sp_px (nI 40) (nI w) (nI h) ff (x + 1) (y - 1)) <<< (1 &&& 31))) ||| ((sp_px (nI 40) (nI w) (nI h) ff x (y - 1)) <<< (2 &&& 31))) ||| ((sp_px (nI 40) (nI w) (nI h) ff (x + p0) (y + q0)) <<< (3 &&& 31))) ||| ((sp_rf (nI rwd) (nI rht) rg dx dy (x + 1) (y + 1)) <<< (4 &&& 31))) ||| ((sp_rf (nI rwd) (nI rht) rg dx dy x (y + 1)) <<< (5 &&& 31))) ||| ((sp_rf (nI rwd) (nI rht) rg dx dy (x - 1) (y + 1)) <<< (6 &&& 31))) ||| ((sp_rf (nI rwd) (nI rht) rg dx dy (x + 1) y) <<< (7 &&& 31))) ||| ((sp_rf (nI rwd) (nI rht) rg dx dy x y) <<< (8 &&& 31))) ||| ((sp_rf (nI rwd) (nI rht) rg dx dy (x - 1) y) <<< (9 &&& 31))) ||| ((sp_rf (nI rwd) (nI rht) rg dx dy (x + 1) (y - 1)) <<< (10 &&& 31)))]) ⟨hx, hb, hml, hown, hts⟩ (c_X8_referred l dC dI cI cZ cJ m0 m1 m2 m3 m4 m5 m6 th tp ty sf 1 rt dx dy p0 q0 p1 q1 kp w h rwd rht k sk tr co b ma mc mt rg x (y - 1) (hrw) (hrh) (hrg)) (cwV 2 hts gX8_contextOf_X8_referred rfl rfl rfl (by decide +kernel) ⟨Nat.le_of_ble_eq_true rfl, Nat.le_of_ble_eq_true rfl⟩) (hw_roV hP hS hk [0, 2] rfl (ci := 7) (q0 := 0) rfl rfl) rfl rfl hl.1 rfl (lv_room (Nat.le_of_ble_eq_true rfl)) dX8_contextOf_247 ⟨Nat.le_of_ble_eq_true rfl, Nat.le_of_ble_eq_true rfl⟩) ?_
    refine lv_bipush (v := 11) hx hb dX8_contextOf_250 (by decide) ?_
    refine lv_ishl hx hb dX8_contextOf_252 ?_
    refine lv_ior hx hb dX8_contextOf_253 ?_
    refine lv_aload_n hx hb dX8_contextOf_254 rfl (lv_at hl 1 rfl) ?_
    refine lv_iload_n hx hb dX8_contextOf_255 rfl (lv_at hl 2 rfl) ?_
    refine lv_aload_n hx hb dX8_contextOf_256 rfl (lv_at hl 1 rfl) ?_
    refine va_get (D := (dC, dI)) (ci := 7) (v := .int p1) (C := RX8) (T := TX8) (N := 31) hx hb hts hiX8 hown hK hP 0 rfl rfl 18 (by decide) (hts (.fieldLink RX8 36 "RefineRegionsModel" "p1" "I") (by decide +kernel)) (fun _ h9 => h9) rfl dX8_contextOf_257 ?_
    refine lv_iadd hx hb dX8_contextOf_260 ?_
    refine lv_iload_n hx hb dX8_contextOf_261 rfl (lv_at hl 3 rfl) ?_
    refine lv_aload_n hx hb dX8_contextOf_262 rfl (lv_at hl 1 rfl) ?_
    refine va_get (D := (dC, dI)) (ci := 7) (v := .int q1) (C := RX8) (T := TX8) (N := 31) hx hb hts hiX8 hown hK hP 0 rfl rfl 19 (by decide) (hts (.fieldLink RX8 39 "RefineRegionsModel" "q1" "I") (by decide +kernel)) (fun _ h9 => h9) rfl dX8_contextOf_263 ?_
    refine lv_iadd hx hb dX8_contextOf_266 ?_
    refine hw_callSe (va_runV (As := [.int (x + p1), .int (y + q1)]) (rest := [.int ((((((((((((sp_px (nI 40) (nI w) (nI h) ff (x - 1) y) ||| ((sp_px (nI 40) (nI w) (nI h) ff (x + 1) (y - 1)) <<< (1 &&& 31))) ||| ((sp_px (nI 40) (nI w) (nI h) ff x (y - 1)) <<< (2 &&& 31))) ||| ((sp_px (nI 40) (nI w) (nI h) ff (x + p0) (y + q0)) <<< (3 &&& 31))) ||| ((sp_rf (nI rwd) (nI rht) rg dx dy (x + 1) (y + 1)) <<< (4 &&& 31))) ||| ((sp_rf (nI rwd) (nI rht) rg dx dy x (y + 1)) <<< (5 &&& 31))) ||| ((sp_rf (nI rwd) (nI rht) rg dx dy (x - 1) (y + 1)) <<< (6 &&& 31))) ||| ((sp_rf (nI rwd) (nI rht) rg dx dy (x + 1) y) <<< (7 &&& 31))) ||| ((sp_rf (nI rwd) (nI rht) rg dx dy x y) <<< (8 &&& 31))) ||| ((sp_rf (nI rwd) (nI rht) rg dx dy (x - 1) y) <<< (9 &&& 31))) ||| ((sp_rf (nI rwd) (nI rht) rg dx dy (x + 1) (y - 1)) <<< (10 &&& 31))) ||| ((sp_rf (nI rwd) (nI rht) rg dx dy x (y - 1)) <<< (11 &&& 31)))]) ⟨hx, hb, hml, hown, hts⟩ (c_X8_referred l dC dI cI cZ cJ m0 m1 m2 m3 m4 m5 m6 th tp ty sf 1 rt dx dy p0 q0 p1 q1 kp w h rwd rht k sk tr co b ma mc mt rg (x + p1) (y + q1) (hrw) (hrh) (hrg)) (cwV 2 hts gX8_contextOf_X8_referred rfl rfl rfl (by decide +kernel) ⟨Nat.le_of_ble_eq_true rfl, Nat.le_of_ble_eq_true rfl⟩) (hw_roV hP hS hk [0, 2] rfl (ci := 7) (q0 := 0) rfl rfl) rfl rfl hl.1 rfl (lv_room (Nat.le_of_ble_eq_true rfl)) dX8_contextOf_267 ⟨Nat.le_of_ble_eq_true rfl, Nat.le_of_ble_eq_true rfl⟩) ?_
    refine lv_bipush (v := 12) hx hb dX8_contextOf_270 (by decide) ?_
    refine lv_ishl hx hb dX8_contextOf_272 ?_
    refine lv_ior hx hb dX8_contextOf_273 ?_
    refine lv_istore_n (lv' := [(3, .int (((((((((((((sp_px (nI 40) (nI w) (nI h) ff (x - 1) y) ||| ((sp_px (nI 40) (nI w) (nI h) ff (x + 1) (y - 1)) <<< (1 &&& 31))) ||| ((sp_px (nI 40) (nI w) (nI h) ff x (y - 1)) <<< (2 &&& 31))) ||| ((sp_px (nI 40) (nI w) (nI h) ff (x + p0) (y + q0)) <<< (3 &&& 31))) ||| ((sp_rf (nI rwd) (nI rht) rg dx dy (x + 1) (y + 1)) <<< (4 &&& 31))) ||| ((sp_rf (nI rwd) (nI rht) rg dx dy x (y + 1)) <<< (5 &&& 31))) ||| ((sp_rf (nI rwd) (nI rht) rg dx dy (x - 1) (y + 1)) <<< (6 &&& 31))) ||| ((sp_rf (nI rwd) (nI rht) rg dx dy (x + 1) y) <<< (7 &&& 31))) ||| ((sp_rf (nI rwd) (nI rht) rg dx dy x y) <<< (8 &&& 31))) ||| ((sp_rf (nI rwd) (nI rht) rg dx dy (x - 1) y) <<< (9 &&& 31))) ||| ((sp_rf (nI rwd) (nI rht) rg dx dy (x + 1) (y - 1)) <<< (10 &&& 31))) ||| ((sp_rf (nI rwd) (nI rht) rg dx dy x (y - 1)) <<< (11 &&& 31))) ||| ((sp_rf (nI rwd) (nI rht) rg dx dy (x + p1) (y + q1)) <<< (12 &&& 31)))), (0, .ref m0), (1, .int x), (2, .int y)]) hx hb dX8_contextOf_274 rfl hl (by decide) rfl (fun ls hl => ?_)
    refine lv_iload_n hx hb dX8_contextOf_275 rfl (lv_at hl 0 rfl) ?_
    exact W.iret (v := ((((((((((((sp_px (nI 40) (nI w) (nI h) ff (x - 1) y) ||| ((sp_px (nI 40) (nI w) (nI h) ff (x + 1) (y - 1)) <<< (1 &&& 31))) ||| ((sp_px (nI 40) (nI w) (nI h) ff x (y - 1)) <<< (2 &&& 31))) ||| ((sp_px (nI 40) (nI w) (nI h) ff (x + p0) (y + q0)) <<< (3 &&& 31))) ||| ((sp_rf (nI rwd) (nI rht) rg dx dy (x + 1) (y + 1)) <<< (4 &&& 31))) ||| ((sp_rf (nI rwd) (nI rht) rg dx dy x (y + 1)) <<< (5 &&& 31))) ||| ((sp_rf (nI rwd) (nI rht) rg dx dy (x - 1) (y + 1)) <<< (6 &&& 31))) ||| ((sp_rf (nI rwd) (nI rht) rg dx dy (x + 1) y) <<< (7 &&& 31))) ||| ((sp_rf (nI rwd) (nI rht) rg dx dy x y) <<< (8 &&& 31))) ||| ((sp_rf (nI rwd) (nI rht) rg dx dy (x - 1) y) <<< (9 &&& 31))) ||| ((sp_rf (nI rwd) (nI rht) rg dx dy (x + 1) (y - 1)) <<< (10 &&& 31))) ||| ((sp_rf (nI rwd) (nI rht) rg dx dy x (y - 1)) <<< (11 &&& 31))) ||| ((sp_rf (nI rwd) (nI rht) rg dx dy (x + p1) (y + q1)) <<< (12 &&& 31))) hx hb hr (fun t ht hW => ⟨((((((((((((sp_px (nI 40) (nI w) (nI h) ff (x - 1) y) ||| ((sp_px (nI 40) (nI w) (nI h) ff (x + 1) (y - 1)) <<< (1 &&& 31))) ||| ((sp_px (nI 40) (nI w) (nI h) ff x (y - 1)) <<< (2 &&& 31))) ||| ((sp_px (nI 40) (nI w) (nI h) ff (x + p0) (y + q0)) <<< (3 &&& 31))) ||| ((sp_rf (nI rwd) (nI rht) rg dx dy (x + 1) (y + 1)) <<< (4 &&& 31))) ||| ((sp_rf (nI rwd) (nI rht) rg dx dy x (y + 1)) <<< (5 &&& 31))) ||| ((sp_rf (nI rwd) (nI rht) rg dx dy (x - 1) (y + 1)) <<< (6 &&& 31))) ||| ((sp_rf (nI rwd) (nI rht) rg dx dy (x + 1) y) <<< (7 &&& 31))) ||| ((sp_rf (nI rwd) (nI rht) rg dx dy x y) <<< (8 &&& 31))) ||| ((sp_rf (nI rwd) (nI rht) rg dx dy (x - 1) y) <<< (9 &&& 31))) ||| ((sp_rf (nI rwd) (nI rht) rg dx dy (x + 1) (y - 1)) <<< (10 &&& 31))) ||| ((sp_rf (nI rwd) (nI rht) rg dx dy x (y - 1)) <<< (11 &&& 31))) ||| ((sp_rf (nI rwd) (nI rht) rg dx dy (x + p1) (y + q1)) <<< (12 &&& 31)), rfl, by unfold sp_cx sp_cb sp_cx0; rw [if_pos (htp.resolve_right c_38)]; simp only [Int32.or_assoc], ht⟩) hS.2.2 dX8_contextOf_276
  · refine lv_iload_n hx hb dX8_contextOf_41 rfl (lv_at hl 0 rfl) ?_
    refine lv_aload_n hx hb dX8_contextOf_42 rfl (lv_at hl 1 rfl) ?_
    refine lv_iload_n hx hb dX8_contextOf_43 rfl (lv_at hl 2 rfl) ?_
    refine lv_iconst (v := 1) hx hb dX8_contextOf_44 (by decide) ?_
    refine lv_isub hx hb dX8_contextOf_45 ?_
    refine lv_iload_n hx hb dX8_contextOf_46 rfl (lv_at hl 3 rfl) ?_
    refine lv_iconst (v := 1) hx hb dX8_contextOf_47 (by decide) ?_
    refine lv_isub hx hb dX8_contextOf_48 ?_
    refine hw_callSe (va_runV (As := [.int (x - 1), .int (y - 1)]) (rest := [.int (((sp_px (nI 40) (nI w) (nI h) ff (x - 1) y) ||| ((sp_px (nI 40) (nI w) (nI h) ff (x + 1) (y - 1)) <<< (1 &&& 31))) ||| ((sp_px (nI 40) (nI w) (nI h) ff x (y - 1)) <<< (2 &&& 31)))]) ⟨hx, hb, hml, hown, hts⟩ (c_X8_pixel_1 l dC dI cI cZ cJ m0 m1 m2 m3 m4 m5 m6 th tp ty sf rt dx dy p0 q0 p1 q1 kp w h rwd rht k sk tr co b ma mc mt ff (x - 1) (y - 1) (hw1) (hh1) (h01)) (cwV 2 hts gX8_contextOf_X8_pixel rfl rfl rfl (by decide +kernel) ⟨Nat.le_of_ble_eq_true rfl, Nat.le_of_ble_eq_true rfl⟩) (hw_roV hP hS hk [0, 1] rfl (ci := 7) (q0 := 0) rfl rfl) rfl rfl hl.1 rfl (lv_room (Nat.le_of_ble_eq_true rfl)) dX8_contextOf_49 ⟨Nat.le_of_ble_eq_true rfl, Nat.le_of_ble_eq_true rfl⟩) ?_
    refine lv_iconst (v := 3) hx hb dX8_contextOf_52 (by decide) ?_
    refine lv_ishl hx hb dX8_contextOf_53 ?_
    refine lv_ior hx hb dX8_contextOf_54 ?_
    refine lv_aload_n hx hb dX8_contextOf_55 rfl (lv_at hl 1 rfl) ?_
    refine lv_iload_n hx hb dX8_contextOf_56 rfl (lv_at hl 2 rfl) ?_
    refine lv_iconst (v := 1) hx hb dX8_contextOf_57 (by decide) ?_
    refine lv_iadd hx hb dX8_contextOf_58 ?_
    refine lv_iload_n hx hb dX8_contextOf_59 rfl (lv_at hl 3 rfl) ?_
    refine lv_iconst (v := 1) hx hb dX8_contextOf_60 (by decide) ?_
    refine lv_iadd hx hb dX8_contextOf_61 ?_
    refine hw_callSe (va_runV (As := [.int (x + 1), .int (y + 1)]) (rest := [.int ((((sp_px (nI 40) (nI w) (nI h) ff (x - 1) y) ||| ((sp_px (nI 40) (nI w) (nI h) ff (x + 1) (y - 1)) <<< (1 &&& 31))) ||| ((sp_px (nI 40) (nI w) (nI h) ff x (y - 1)) <<< (2 &&& 31))) ||| ((sp_px (nI 40) (nI w) (nI h) ff (x - 1) (y - 1)) <<< (3 &&& 31)))]) ⟨hx, hb, hml, hown, hts⟩ (c_X8_referred l dC dI cI cZ cJ m0 m1 m2 m3 m4 m5 m6 th tp ty sf 1 rt dx dy p0 q0 p1 q1 kp w h rwd rht k sk tr co b ma mc mt rg (x + 1) (y + 1) (hrw) (hrh) (hrg)) (cwV 2 hts gX8_contextOf_X8_referred rfl rfl rfl (by decide +kernel) ⟨Nat.le_of_ble_eq_true rfl, Nat.le_of_ble_eq_true rfl⟩) (hw_roV hP hS hk [0, 2] rfl (ci := 7) (q0 := 0) rfl rfl) rfl rfl hl.1 rfl (lv_room (Nat.le_of_ble_eq_true rfl)) dX8_contextOf_62 ⟨Nat.le_of_ble_eq_true rfl, Nat.le_of_ble_eq_true rfl⟩) ?_
    refine lv_iconst (v := 4) hx hb dX8_contextOf_65 (by decide) ?_
    refine lv_ishl hx hb dX8_contextOf_66 ?_
    refine lv_ior hx hb dX8_contextOf_67 ?_
    refine lv_aload_n hx hb dX8_contextOf_68 rfl (lv_at hl 1 rfl) ?_
    refine lv_iload_n hx hb dX8_contextOf_69 rfl (lv_at hl 2 rfl) ?_
    refine lv_iload_n hx hb dX8_contextOf_70 rfl (lv_at hl 3 rfl) ?_
    refine lv_iconst (v := 1) hx hb dX8_contextOf_71 (by decide) ?_
    refine lv_iadd hx hb dX8_contextOf_72 ?_
    refine hw_callSe (va_runV (As := [.int x, .int (y + 1)]) (rest := [.int (((((sp_px (nI 40) (nI w) (nI h) ff (x - 1) y) ||| ((sp_px (nI 40) (nI w) (nI h) ff (x + 1) (y - 1)) <<< (1 &&& 31))) ||| ((sp_px (nI 40) (nI w) (nI h) ff x (y - 1)) <<< (2 &&& 31))) ||| ((sp_px (nI 40) (nI w) (nI h) ff (x - 1) (y - 1)) <<< (3 &&& 31))) ||| ((sp_rf (nI rwd) (nI rht) rg dx dy (x + 1) (y + 1)) <<< (4 &&& 31)))]) ⟨hx, hb, hml, hown, hts⟩ (c_X8_referred l dC dI cI cZ cJ m0 m1 m2 m3 m4 m5 m6 th tp ty sf 1 rt dx dy p0 q0 p1 q1 kp w h rwd rht k sk tr co b ma mc mt rg x (y + 1) (hrw) (hrh) (hrg)) (cwV 2 hts gX8_contextOf_X8_referred rfl rfl rfl (by decide +kernel) ⟨Nat.le_of_ble_eq_true rfl, Nat.le_of_ble_eq_true rfl⟩) (hw_roV hP hS hk [0, 2] rfl (ci := 7) (q0 := 0) rfl rfl) rfl rfl hl.1 rfl (lv_room (Nat.le_of_ble_eq_true rfl)) dX8_contextOf_73 ⟨Nat.le_of_ble_eq_true rfl, Nat.le_of_ble_eq_true rfl⟩) ?_
    refine lv_iconst (v := 5) hx hb dX8_contextOf_76 (by decide) ?_
    refine lv_ishl hx hb dX8_contextOf_77 ?_
    refine lv_ior hx hb dX8_contextOf_78 ?_
    refine lv_istore_n (lv' := [(3, .int ((((((sp_px (nI 40) (nI w) (nI h) ff (x - 1) y) ||| ((sp_px (nI 40) (nI w) (nI h) ff (x + 1) (y - 1)) <<< (1 &&& 31))) ||| ((sp_px (nI 40) (nI w) (nI h) ff x (y - 1)) <<< (2 &&& 31))) ||| ((sp_px (nI 40) (nI w) (nI h) ff (x - 1) (y - 1)) <<< (3 &&& 31))) ||| ((sp_rf (nI rwd) (nI rht) rg dx dy (x + 1) (y + 1)) <<< (4 &&& 31))) ||| ((sp_rf (nI rwd) (nI rht) rg dx dy x (y + 1)) <<< (5 &&& 31)))), (0, .ref m0), (1, .int x), (2, .int y)]) hx hb dX8_contextOf_79 rfl hl (by decide) rfl (fun ls hl => ?_)
    refine lv_iload_n hx hb dX8_contextOf_80 rfl (lv_at hl 0 rfl) ?_
    refine lv_aload_n hx hb dX8_contextOf_81 rfl (lv_at hl 1 rfl) ?_
    refine lv_iload_n hx hb dX8_contextOf_82 rfl (lv_at hl 2 rfl) ?_
    refine lv_iconst (v := 1) hx hb dX8_contextOf_83 (by decide) ?_
    refine lv_iadd hx hb dX8_contextOf_84 ?_
    refine lv_iload_n hx hb dX8_contextOf_85 rfl (lv_at hl 3 rfl) ?_
    refine hw_callSe (va_runV (As := [.int (x + 1), .int y]) (rest := [.int ((((((sp_px (nI 40) (nI w) (nI h) ff (x - 1) y) ||| ((sp_px (nI 40) (nI w) (nI h) ff (x + 1) (y - 1)) <<< (1 &&& 31))) ||| ((sp_px (nI 40) (nI w) (nI h) ff x (y - 1)) <<< (2 &&& 31))) ||| ((sp_px (nI 40) (nI w) (nI h) ff (x - 1) (y - 1)) <<< (3 &&& 31))) ||| ((sp_rf (nI rwd) (nI rht) rg dx dy (x + 1) (y + 1)) <<< (4 &&& 31))) ||| ((sp_rf (nI rwd) (nI rht) rg dx dy x (y + 1)) <<< (5 &&& 31)))]) ⟨hx, hb, hml, hown, hts⟩ (c_X8_referred l dC dI cI cZ cJ m0 m1 m2 m3 m4 m5 m6 th tp ty sf 1 rt dx dy p0 q0 p1 q1 kp w h rwd rht k sk tr co b ma mc mt rg (x + 1) y (hrw) (hrh) (hrg)) (cwV 2 hts gX8_contextOf_X8_referred rfl rfl rfl (by decide +kernel) ⟨Nat.le_of_ble_eq_true rfl, Nat.le_of_ble_eq_true rfl⟩) (hw_roV hP hS hk [0, 2] rfl (ci := 7) (q0 := 0) rfl rfl) rfl rfl hl.1 rfl (lv_room (Nat.le_of_ble_eq_true rfl)) dX8_contextOf_86 ⟨Nat.le_of_ble_eq_true rfl, Nat.le_of_ble_eq_true rfl⟩) ?_
    refine lv_bipush (v := 6) hx hb dX8_contextOf_89 (by decide) ?_
    refine lv_ishl hx hb dX8_contextOf_91 ?_
    refine lv_ior hx hb dX8_contextOf_92 ?_
    refine lv_aload_n hx hb dX8_contextOf_93 rfl (lv_at hl 1 rfl) ?_
    refine lv_iload_n hx hb dX8_contextOf_94 rfl (lv_at hl 2 rfl) ?_
    refine lv_iload_n hx hb dX8_contextOf_95 rfl (lv_at hl 3 rfl) ?_
    refine hw_callSe (va_runV (As := [.int x, .int y]) (rest := [.int (((((((sp_px (nI 40) (nI w) (nI h) ff (x - 1) y) ||| ((sp_px (nI 40) (nI w) (nI h) ff (x + 1) (y - 1)) <<< (1 &&& 31))) ||| ((sp_px (nI 40) (nI w) (nI h) ff x (y - 1)) <<< (2 &&& 31))) ||| ((sp_px (nI 40) (nI w) (nI h) ff (x - 1) (y - 1)) <<< (3 &&& 31))) ||| ((sp_rf (nI rwd) (nI rht) rg dx dy (x + 1) (y + 1)) <<< (4 &&& 31))) ||| ((sp_rf (nI rwd) (nI rht) rg dx dy x (y + 1)) <<< (5 &&& 31))) ||| ((sp_rf (nI rwd) (nI rht) rg dx dy (x + 1) y) <<< (6 &&& 31)))]) ⟨hx, hb, hml, hown, hts⟩ (c_X8_referred l dC dI cI cZ cJ m0 m1 m2 m3 m4 m5 m6 th tp ty sf 1 rt dx dy p0 q0 p1 q1 kp w h rwd rht k sk tr co b ma mc mt rg x y (hrw) (hrh) (hrg)) (cwV 2 hts gX8_contextOf_X8_referred rfl rfl rfl (by decide +kernel) ⟨Nat.le_of_ble_eq_true rfl, Nat.le_of_ble_eq_true rfl⟩) (hw_roV hP hS hk [0, 2] rfl (ci := 7) (q0 := 0) rfl rfl) rfl rfl hl.1 rfl (lv_room (Nat.le_of_ble_eq_true rfl)) dX8_contextOf_96 ⟨Nat.le_of_ble_eq_true rfl, Nat.le_of_ble_eq_true rfl⟩) ?_
    refine lv_bipush (v := 7) hx hb dX8_contextOf_99 (by decide) ?_
    refine lv_ishl hx hb dX8_contextOf_101 ?_
    refine lv_ior hx hb dX8_contextOf_102 ?_
    refine lv_aload_n hx hb dX8_contextOf_103 rfl (lv_at hl 1 rfl) ?_
    refine lv_iload_n hx hb dX8_contextOf_104 rfl (lv_at hl 2 rfl) ?_
    refine lv_iconst (v := 1) hx hb dX8_contextOf_105 (by decide) ?_
    refine lv_isub hx hb dX8_contextOf_106 ?_
    refine lv_iload_n hx hb dX8_contextOf_107 rfl (lv_at hl 3 rfl) ?_
    refine hw_callSe (va_runV (As := [.int (x - 1), .int y]) (rest := [.int ((((((((sp_px (nI 40) (nI w) (nI h) ff (x - 1) y) ||| ((sp_px (nI 40) (nI w) (nI h) ff (x + 1) (y - 1)) <<< (1 &&& 31))) ||| ((sp_px (nI 40) (nI w) (nI h) ff x (y - 1)) <<< (2 &&& 31))) ||| ((sp_px (nI 40) (nI w) (nI h) ff (x - 1) (y - 1)) <<< (3 &&& 31))) ||| ((sp_rf (nI rwd) (nI rht) rg dx dy (x + 1) (y + 1)) <<< (4 &&& 31))) ||| ((sp_rf (nI rwd) (nI rht) rg dx dy x (y + 1)) <<< (5 &&& 31))) ||| ((sp_rf (nI rwd) (nI rht) rg dx dy (x + 1) y) <<< (6 &&& 31))) ||| ((sp_rf (nI rwd) (nI rht) rg dx dy x y) <<< (7 &&& 31)))]) ⟨hx, hb, hml, hown, hts⟩ (c_X8_referred l dC dI cI cZ cJ m0 m1 m2 m3 m4 m5 m6 th tp ty sf 1 rt dx dy p0 q0 p1 q1 kp w h rwd rht k sk tr co b ma mc mt rg (x - 1) y (hrw) (hrh) (hrg)) (cwV 2 hts gX8_contextOf_X8_referred rfl rfl rfl (by decide +kernel) ⟨Nat.le_of_ble_eq_true rfl, Nat.le_of_ble_eq_true rfl⟩) (hw_roV hP hS hk [0, 2] rfl (ci := 7) (q0 := 0) rfl rfl) rfl rfl hl.1 rfl (lv_room (Nat.le_of_ble_eq_true rfl)) dX8_contextOf_108 ⟨Nat.le_of_ble_eq_true rfl, Nat.le_of_ble_eq_true rfl⟩) ?_
    refine lv_bipush (v := 8) hx hb dX8_contextOf_111 (by decide) ?_
    refine lv_ishl hx hb dX8_contextOf_113 ?_
    refine lv_ior hx hb dX8_contextOf_114 ?_
    refine lv_aload_n hx hb dX8_contextOf_115 rfl (lv_at hl 1 rfl) ?_
    refine lv_iload_n hx hb dX8_contextOf_116 rfl (lv_at hl 2 rfl) ?_
    refine lv_iload_n hx hb dX8_contextOf_117 rfl (lv_at hl 3 rfl) ?_
    refine lv_iconst (v := 1) hx hb dX8_contextOf_118 (by decide) ?_
    refine lv_isub hx hb dX8_contextOf_119 ?_
    refine hw_callSe (va_runV (As := [.int x, .int (y - 1)]) (rest := [.int (((((((((sp_px (nI 40) (nI w) (nI h) ff (x - 1) y) ||| ((sp_px (nI 40) (nI w) (nI h) ff (x + 1) (y - 1)) <<< (1 &&& 31))) ||| ((sp_px (nI 40) (nI w) (nI h) ff x (y - 1)) <<< (2 &&& 31))) ||| ((sp_px (nI 40) (nI w) (nI h) ff (x - 1) (y - 1)) <<< (3 &&& 31))) ||| ((sp_rf (nI rwd) (nI rht) rg dx dy (x + 1) (y + 1)) <<< (4 &&& 31))) ||| ((sp_rf (nI rwd) (nI rht) rg dx dy x (y + 1)) <<< (5 &&& 31))) ||| ((sp_rf (nI rwd) (nI rht) rg dx dy (x + 1) y) <<< (6 &&& 31))) ||| ((sp_rf (nI rwd) (nI rht) rg dx dy x y) <<< (7 &&& 31))) ||| ((sp_rf (nI rwd) (nI rht) rg dx dy (x - 1) y) <<< (8 &&& 31)))]) ⟨hx, hb, hml, hown, hts⟩ (c_X8_referred l dC dI cI cZ cJ m0 m1 m2 m3 m4 m5 m6 th tp ty sf 1 rt dx dy p0 q0 p1 q1 kp w h rwd rht k sk tr co b ma mc mt rg x (y - 1) (hrw) (hrh) (hrg)) (cwV 2 hts gX8_contextOf_X8_referred rfl rfl rfl (by decide +kernel) ⟨Nat.le_of_ble_eq_true rfl, Nat.le_of_ble_eq_true rfl⟩) (hw_roV hP hS hk [0, 2] rfl (ci := 7) (q0 := 0) rfl rfl) rfl rfl hl.1 rfl (lv_room (Nat.le_of_ble_eq_true rfl)) dX8_contextOf_120 ⟨Nat.le_of_ble_eq_true rfl, Nat.le_of_ble_eq_true rfl⟩) ?_
    refine lv_bipush (v := 9) hx hb dX8_contextOf_123 (by decide) ?_
    refine lv_ishl hx hb dX8_contextOf_125 ?_
    refine lv_ior hx hb dX8_contextOf_126 ?_
    refine lv_istore_n (lv' := [(3, .int ((((((((((sp_px (nI 40) (nI w) (nI h) ff (x - 1) y) ||| ((sp_px (nI 40) (nI w) (nI h) ff (x + 1) (y - 1)) <<< (1 &&& 31))) ||| ((sp_px (nI 40) (nI w) (nI h) ff x (y - 1)) <<< (2 &&& 31))) ||| ((sp_px (nI 40) (nI w) (nI h) ff (x - 1) (y - 1)) <<< (3 &&& 31))) ||| ((sp_rf (nI rwd) (nI rht) rg dx dy (x + 1) (y + 1)) <<< (4 &&& 31))) ||| ((sp_rf (nI rwd) (nI rht) rg dx dy x (y + 1)) <<< (5 &&& 31))) ||| ((sp_rf (nI rwd) (nI rht) rg dx dy (x + 1) y) <<< (6 &&& 31))) ||| ((sp_rf (nI rwd) (nI rht) rg dx dy x y) <<< (7 &&& 31))) ||| ((sp_rf (nI rwd) (nI rht) rg dx dy (x - 1) y) <<< (8 &&& 31))) ||| ((sp_rf (nI rwd) (nI rht) rg dx dy x (y - 1)) <<< (9 &&& 31)))), (0, .ref m0), (1, .int x), (2, .int y)]) hx hb dX8_contextOf_127 rfl hl (by decide) rfl (fun ls hl => ?_)
    refine lv_iload_n hx hb dX8_contextOf_128 rfl (lv_at hl 0 rfl) ?_
    exact W.iret (v := (((((((((sp_px (nI 40) (nI w) (nI h) ff (x - 1) y) ||| ((sp_px (nI 40) (nI w) (nI h) ff (x + 1) (y - 1)) <<< (1 &&& 31))) ||| ((sp_px (nI 40) (nI w) (nI h) ff x (y - 1)) <<< (2 &&& 31))) ||| ((sp_px (nI 40) (nI w) (nI h) ff (x - 1) (y - 1)) <<< (3 &&& 31))) ||| ((sp_rf (nI rwd) (nI rht) rg dx dy (x + 1) (y + 1)) <<< (4 &&& 31))) ||| ((sp_rf (nI rwd) (nI rht) rg dx dy x (y + 1)) <<< (5 &&& 31))) ||| ((sp_rf (nI rwd) (nI rht) rg dx dy (x + 1) y) <<< (6 &&& 31))) ||| ((sp_rf (nI rwd) (nI rht) rg dx dy x y) <<< (7 &&& 31))) ||| ((sp_rf (nI rwd) (nI rht) rg dx dy (x - 1) y) <<< (8 &&& 31))) ||| ((sp_rf (nI rwd) (nI rht) rg dx dy x (y - 1)) <<< (9 &&& 31))) hx hb hr (fun t ht hW => ⟨(((((((((sp_px (nI 40) (nI w) (nI h) ff (x - 1) y) ||| ((sp_px (nI 40) (nI w) (nI h) ff (x + 1) (y - 1)) <<< (1 &&& 31))) ||| ((sp_px (nI 40) (nI w) (nI h) ff x (y - 1)) <<< (2 &&& 31))) ||| ((sp_px (nI 40) (nI w) (nI h) ff (x - 1) (y - 1)) <<< (3 &&& 31))) ||| ((sp_rf (nI rwd) (nI rht) rg dx dy (x + 1) (y + 1)) <<< (4 &&& 31))) ||| ((sp_rf (nI rwd) (nI rht) rg dx dy x (y + 1)) <<< (5 &&& 31))) ||| ((sp_rf (nI rwd) (nI rht) rg dx dy (x + 1) y) <<< (6 &&& 31))) ||| ((sp_rf (nI rwd) (nI rht) rg dx dy x y) <<< (7 &&& 31))) ||| ((sp_rf (nI rwd) (nI rht) rg dx dy (x - 1) y) <<< (8 &&& 31))) ||| ((sp_rf (nI rwd) (nI rht) rg dx dy x (y - 1)) <<< (9 &&& 31)), rfl, by unfold sp_cx sp_cb sp_cx1; rw [if_neg (by rw [c_38]; decide)]; simp only [Int32.or_assoc], ht⟩) hS.2.2 dX8_contextOf_129
