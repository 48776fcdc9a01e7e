set_option maxHeartbeats 4000000 in
set_option maxRecDepth 100000 in
/-- noPixel(x, y) -/
theorem c_X8_noPixel (l : Launch) (dC : Nat → ClassId) (dI : Nat → Nat → Nat) (cI cZ cJ : ClassId) (m0 : Nat) (m1 : Nat) (m2 : Nat) (m3 : Nat) (m4 : Nat) (m5 : Nat) (m6 : Nat) (th : Int32) (tp : Int32) (ty : Int32) (sf : Int32) (rdg : Int32) (rt : Int32) (dx : Int32) (dy : Int32) (p0 : Int32) (q0 : Int32) (p1 : Int32) (q1 : Int32) (kp : Int32) (w : Nat) (h : Nat) (rwd : Nat) (rht : Nat) (k : Nat) (sk : Nat) (tr : Nat) (co : Nat) (b : Nat) (ma : Int64) (mc : Int64) (mt : Int32) (x : Int32) (y : Int32) : Met l yX8_noPixel wsX8_noPixel ({ frames := 0, cells := 0, slots := 0, locals := 0 }) (hw_Ro (dC, dI) vwCl (ty3 cI cZ cJ) [(m0, .inr (7, [.int th, .ref m1, .int (nI w), .int (nI h), .int tp, .int ty, .ref m2, .ref m3, .int sf, .int rdg, .int rt, .int (nI rwd), .int (nI rht), .ref m4, .int dx, .int dy, .int p0, .int q0, .int p1, .int q1, .int kp, .ref m5, .ref m6, .int (nI k), .int (nI sk), .int (nI tr), .int (nI co), .long ma, .long mc, .int mt, .int (nI b)]))] [.ref m0, .int x, .int y]) (vp_Si (fun r => r = 1 - sp_ho (nI w) (nI h) x y)) 0 0 (fun _ => False) := by
  refine Met.ofW (cc := cX8_noPixel) (maxL := 3) (ret := (some .boolean)) (by decide) rfl ?_
  intro pg ev s m args below meth cd s₁ B hml hv
  obtain ⟨rfl, hP, hK, hN, hZ⟩ := hv
  have hx := B.exec
  have hb := B.bytes
  have hr := B.returns
  have hts := atoms_spec (ws := wsX8_noPixel) B.pre
  have hown : s.vm.findClass RX8 = some m.cls := findClass_of_methodNamed B.named
  have hlocks := B.notSynchronized
  have hS : va_S (fun _ => False) s.heap s.heap [] := va_S.rf
  have hk : hw_K (dC, dI) vwCl (ty3 cI cZ cJ) (fun _ => False) s := ⟨hK, hN, hZ⟩
  have hiX8 : ∀ w ∈ u_ws RX8 TX8 31, w ∈ wsX8_noPixel := by decide +kernel
  have hl := lv_entry ([.ref m0, .int x, .int y]) (n := 3) (Nat.le_of_ble_eq_true rfl)
  rw [lg_entry_eq]
  generalize (lg_sl ([.ref m0, .int x, .int y]) ++ List.replicate (3 - (lg_sl ([.ref m0, .int x, .int y])).length) Slot.unset).toArray = ls at hl ⊢
  have hl : lv_has ls 3 [(0, .ref m0), (1, .int x), (2, .int y)] := hl
  refine lv_iload_n hx hb dX8_noPixel_0 rfl (lv_at hl 1 rfl) ?_
  refine lv_if_lt (tgt := 24) hx hb dX8_noPixel_1 (by decide) (fun c_1 => ?_) (fun c_1 => ?_)
  · refine lv_iconst (v := 1) hx hb dX8_noPixel_24 (by decide) ?_
    refine lv_goto (tgt := 29) hx hb dX8_noPixel_25 (by decide) ?_
    exact W.zret (v := 1) hx hb hr (by decide +kernel) (fun t ht hW => ⟨1, rfl, by rw [sp_ho_out (by first | exact Or.inl c_1 | exact Or.inr (Or.inl c_13) | exact Or.inr (Or.inr (Or.inl c_5)) | exact Or.inr (Or.inr (Or.inr (Int32.not_lt.mp c_21))))]; rfl, ht⟩) hS.2.2 dX8_noPixel_29
  · refine lv_iload_n hx hb dX8_noPixel_4 rfl (lv_at hl 2 rfl) ?_
    refine lv_if_lt (tgt := 24) hx hb dX8_noPixel_5 (by decide) (fun c_5 => ?_) (fun c_5 => ?_)
    · refine lv_iconst (v := 1) hx hb dX8_noPixel_24 (by decide) ?_
      refine lv_goto (tgt := 29) hx hb dX8_noPixel_25 (by decide) ?_
      exact W.zret (v := 1) hx hb hr (by decide +kernel) (fun t ht hW => ⟨1, rfl, by rw [sp_ho_out (by first | exact Or.inl c_1 | exact Or.inr (Or.inl c_13) | exact Or.inr (Or.inr (Or.inl c_5)) | exact Or.inr (Or.inr (Or.inr (Int32.not_lt.mp c_21))))]; rfl, ht⟩) hS.2.2 dX8_noPixel_29
    · refine lv_iload_n hx hb dX8_noPixel_8 rfl (lv_at hl 1 rfl) ?_
      refine lv_aload_n hx hb dX8_noPixel_9 rfl (lv_at hl 0 rfl) ?_
      refine va_get (D := (dC, dI)) (ci := 7) (v := .int (nI w)) (C := RX8) (T := TX8) (N := 31) hx hb hts hiX8 hown hK hP 0 rfl rfl 2 (by decide) (hts (.fieldLink RX8 13 "RefineRegionsModel" "width" "I") (by decide +kernel)) (fun _ h9 => h9) rfl dX8_noPixel_10 ?_
      refine lv_icmp_ge (tgt := 24) hx hb dX8_noPixel_13 (by decide) (fun c_13 => ?_) (fun c_13 => ?_)
      · refine lv_iconst (v := 1) hx hb dX8_noPixel_24 (by decide) ?_
        refine lv_goto (tgt := 29) hx hb dX8_noPixel_25 (by decide) ?_
        exact W.zret (v := 1) hx hb hr (by decide +kernel) (fun t ht hW => ⟨1, rfl, by rw [sp_ho_out (by first | exact Or.inl c_1 | exact Or.inr (Or.inl c_13) | exact Or.inr (Or.inr (Or.inl c_5)) | exact Or.inr (Or.inr (Or.inr (Int32.not_lt.mp c_21))))]; rfl, ht⟩) hS.2.2 dX8_noPixel_29
      · refine lv_iload_n hx hb dX8_noPixel_16 rfl (lv_at hl 2 rfl) ?_
        refine lv_aload_n hx hb dX8_noPixel_17 rfl (lv_at hl 0 rfl) ?_
        refine va_get (D := (dC, dI)) (ci := 7) (v := .int (nI h)) (C := RX8) (T := TX8) (N := 31) hx hb hts hiX8 hown hK hP 0 rfl rfl 3 (by decide) (hts (.fieldLink RX8 17 "RefineRegionsModel" "height" "I") (by decide +kernel)) (fun _ h9 => h9) rfl dX8_noPixel_18 ?_
        refine lv_icmp_lt (tgt := 28) hx hb dX8_noPixel_21 (by decide) (fun c_21 => ?_) (fun c_21 => ?_)
        · refine lv_iconst (v := 0) hx hb dX8_noPixel_28 (by decide) ?_
          exact W.zret (v := 0) hx hb hr (by decide +kernel) (fun t ht hW => ⟨0, rfl, by rw [sp_ho_in c_1 c_13 c_5 (Int32.not_le.mpr c_21)]; rfl, ht⟩) hS.2.2 dX8_noPixel_29
        · refine lv_iconst (v := 1) hx hb dX8_noPixel_24 (by decide) ?_
          refine lv_goto (tgt := 29) hx hb dX8_noPixel_25 (by decide) ?_
          exact W.zret (v := 1) hx hb hr (by decide +kernel) (fun t ht hW => ⟨1, rfl, by rw [sp_ho_out (by first | exact Or.inl c_1 | exact Or.inr (Or.inl c_13) | exact Or.inr (Or.inr (Or.inl c_5)) | exact Or.inr (Or.inr (Or.inr (Int32.not_lt.mp c_21))))]; rfl, ht⟩) hS.2.2 dX8_noPixel_29

set_option maxHeartbeats 4000000 in
set_option maxRecDepth 100000 in
/-- pixel(x, y), reading 0 -/
theorem c_X8_pixel_0 (l : Launch) (dC : Nat → ClassId) (dI : Nat → Nat → Nat) (cI cZ cJ : ClassId) (m0 : Nat) (m1 : Nat) (m2 : Nat) (m3 : Nat) (m4 : Nat) (m5 : Nat) (m6 : Nat) (th : Int32) (tp : Int32) (ty : Int32) (sf : Int32) (rt : Int32) (dx : Int32) (dy : Int32) (p0 : Int32) (q0 : Int32) (p1 : Int32) (q1 : Int32) (kp : Int32) (w : Nat) (h : Nat) (rwd : Nat) (rht : Nat) (k : Nat) (sk : Nat) (tr : Nat) (co : Nat) (b : Nat) (ma : Int64) (mc : Int64) (mt : Int32) (pf : Nat → Int32) (x : Int32) (y : Int32) (hw1 : w ≤ 40) (hh1 : h ≤ 40) (h01 : sp_01 pf) : Met l yX8_pixel wsX8_pixel ({ frames := 1, cells := 0, slots := 0, locals := 22 }) (hw_Ro (dC, dI) vwCl (ty3 cI cZ cJ) [(m0, .inr (7, [.int th, .ref m1, .int (nI w), .int (nI h), .int tp, .int ty, .ref m2, .ref m3, .int sf, .int 0, .int rt, .int (nI rwd), .int (nI rht), .ref m4, .int dx, .int dy, .int p0, .int q0, .int p1, .int q1, .int kp, .ref m5, .ref m6, .int (nI k), .int (nI sk), .int (nI tr), .int (nI co), .long ma, .long mc, .int mt, .int (nI b)])), (m2, .inl (cZ, 1600, .inl pf))] [.ref m0, .int x, .int y]) (vp_Si (fun r => r = sp_px (nI 40) (nI w) (nI h) pf x y)) 0 0 (fun _ => False) := by
  refine Met.ofW (cc := cX8_pixel) (maxL := 3) (ret := (some .int)) (by decide) rfl ?_
  intro pg ev s m args below meth cd s₁ B hml hv
  obtain ⟨rfl, hP, hK, hN, hZ⟩ := hv
  have hx := B.exec
  have hb := B.bytes
  have hr := B.returns
  have hts := atoms_spec (ws := wsX8_pixel) B.pre
  have hown : s.vm.findClass RX8 = some m.cls := findClass_of_methodNamed B.named
  have hlocks := B.notSynchronized
  have hS : va_S (fun _ => False) s.heap s.heap [] := va_S.rf
  have hk : hw_K (dC, dI) vwCl (ty3 cI cZ cJ) (fun _ => False) s := ⟨hK, hN, hZ⟩
  have hiX8 : ∀ w ∈ u_ws RX8 TX8 31, w ∈ wsX8_pixel := by decide +kernel
  have hl := lv_entry ([.ref m0, .int x, .int y]) (n := 3) (Nat.le_of_ble_eq_true rfl)
  rw [lg_entry_eq]
  generalize (lg_sl ([.ref m0, .int x, .int y]) ++ List.replicate (3 - (lg_sl ([.ref m0, .int x, .int y])).length) Slot.unset).toArray = ls at hl ⊢
  have hl : lv_has ls 3 [(0, .ref m0), (1, .int x), (2, .int y)] := hl
  refine lv_aload_n hx hb dX8_pixel_0 rfl (lv_at hl 0 rfl) ?_
  refine lv_iload_n hx hb dX8_pixel_1 rfl (lv_at hl 1 rfl) ?_
  refine lv_iload_n hx hb dX8_pixel_2 rfl (lv_at hl 2 rfl) ?_
  refine hw_callSe (va_runV (As := [.int x, .int y]) (rest := []) ⟨hx, hb, hml, hown, hts⟩ (c_X8_noPixel l dC dI cI cZ cJ m0 m1 m2 m3 m4 m5 m6 th tp ty sf 0 rt dx dy p0 q0 p1 q1 kp w h rwd rht k sk tr co b ma mc mt x y) (cwV 2 hts gX8_pixel_X8_noPixel rfl rfl rfl (by decide +kernel) ⟨Nat.le_of_ble_eq_true rfl, Nat.le_of_ble_eq_true rfl⟩) (hw_roV hP hS hk [0] rfl (ci := 7) (q0 := 0) rfl rfl) rfl rfl hl.1 rfl (lv_room (Nat.le_of_ble_eq_true rfl)) dX8_pixel_3 ⟨Nat.le_of_ble_eq_true rfl, Nat.le_of_ble_eq_true rfl⟩) ?_
  refine lv_if_eq (tgt := 11) hx hb dX8_pixel_6 (by decide) (fun c_6 => ?_) (fun c_6 => ?_)
  · refine lv_aload_n hx hb dX8_pixel_11 rfl (lv_at hl 0 rfl) ?_
    refine va_get (D := (dC, dI)) (ci := 7) (v := .int 0) (C := RX8) (T := TX8) (N := 31) hx hb hts hiX8 hown hK hP 0 rfl rfl 9 (by decide) (hts (.fieldLink RX8 87 "RefineRegionsModel" "reading" "Z") (by decide +kernel)) (fun _ h9 => h9) rfl dX8_pixel_12 ?_
    refine lv_if_eq (tgt := 35) hx hb dX8_pixel_15 (by decide) (fun _ => ?_) (fun c9 => absurd (by decide) c9)
    refine lv_aload_n hx hb dX8_pixel_35 rfl (lv_at hl 0 rfl) ?_
    refine va_get (D := (dC, dI)) (ci := 7) (v := .ref m2) (C := RX8) (T := TX8) (N := 31) hx hb hts hiX8 hown hK hP 0 rfl rfl 6 (by decide) (hts (.fieldLink RX8 20 "RefineRegionsModel" "picture" "[Z") (by decide +kernel)) (fun _ h9 => h9) rfl dX8_pixel_36 ?_
    refine lv_bipush (v := 40) hx hb dX8_pixel_39 (by decide) ?_
    refine lv_iload_n hx hb dX8_pixel_41 rfl (lv_at hl 2 rfl) ?_
    refine lv_imul hx hb dX8_pixel_42 ?_
    refine lv_iload_n hx hb dX8_pixel_43 rfl (lv_at hl 1 rfl) ?_
    refine lv_iadd hx hb dX8_pixel_44 ?_
    refine va_zald hx hb hK hP 1 1 rfl rfl (by rw [Int32.mul_comm]; exact sp_ho_ix (n := 40) (by decide) hw1 hh1 (sp_no_1 c_6)) dX8_pixel_45 ?_
    refine lv_if_eq (tgt := 53) hx hb dX8_pixel_46 (by decide) (fun c_46 => ?_) (fun c_46 => ?_)
    · refine lv_iconst (v := 0) hx hb dX8_pixel_53 (by decide) ?_
      exact W.iret (v := 0) hx hb hr (fun t ht hW => ⟨0, rfl, by rw [sp_px_ho1 (sp_no_1 c_6), Int32.mul_comm]; exact (c_46).symm, ht⟩) hS.2.2 dX8_pixel_54
    · refine lv_iconst (v := 1) hx hb dX8_pixel_49 (by decide) ?_
      refine lv_goto (tgt := 54) hx hb dX8_pixel_50 (by decide) ?_
      exact W.iret (v := 1) hx hb hr (fun t ht hW => ⟨1, rfl, by rw [sp_px_ho1 (sp_no_1 c_6), Int32.mul_comm]; exact ((h01 _).resolve_left c_46).symm, ht⟩) hS.2.2 dX8_pixel_54
  · refine lv_iconst (v := 0) hx hb dX8_pixel_9 (by decide) ?_
    exact W.iret (v := 0) hx hb hr (fun t ht hW => ⟨0, rfl, (sp_px_ho (sp_no_0 c_6)).symm, ht⟩) hS.2.2 dX8_pixel_10

set_option maxHeartbeats 4000000 in
set_option maxRecDepth 100000 in
/-- pixel(x, y), reading 1 -/
theorem c_X8_pixel_1 (l : Launch) (dC : Nat → ClassId) (dI : Nat → Nat → Nat) (cI cZ cJ : ClassId) (m0 : Nat) (m1 : Nat) (m2 : Nat) (m3 : Nat) (m4 : Nat) (m5 : Nat) (m6 : Nat) (th : Int32) (tp : Int32) (ty : Int32) (sf : Int32) (rt : Int32) (dx : Int32) (dy : Int32) (p0 : Int32) (q0 : Int32) (p1 : Int32) (q1 : Int32) (kp : Int32) (w : Nat) (h : Nat) (rwd : Nat) (rht : Nat) (k : Nat) (sk : Nat) (tr : Nat) (co : Nat) (b : Nat) (ma : Int64) (mc : Int64) (mt : Int32) (ff : Nat → Int32) (x : Int32) (y : Int32) (hw1 : w ≤ 40) (hh1 : h ≤ 40) (h01 : sp_01 ff) : Met l yX8_pixel wsX8_pixel ({ frames := 1, cells := 0, slots := 0, locals := 22 }) (hw_Ro (dC, dI) vwCl (ty3 cI cZ cJ) [(m0, .inr (7, [.int th, .ref m1, .int (nI w), .int (nI h), .int tp, .int ty, .ref m2, .ref m3, .int sf, .int 1, .int rt, .int (nI rwd), .int (nI rht), .ref m4, .int dx, .int dy, .int p0, .int q0, .int p1, .int q1, .int kp, .ref m5, .ref m6, .int (nI k), .int (nI sk), .int (nI tr), .int (nI co), .long ma, .long mc, .int mt, .int (nI b)])), (m3, .inl (cZ, 1600, .inl ff))] [.ref m0, .int x, .int y]) (vp_Si (fun r => r = sp_px (nI 40) (nI w) (nI h) ff x y)) 0 0 (fun _ => False) := by
  refine Met.ofW (cc := cX8_pixel) (maxL := 3) (ret := (some .int)) (by decide) rfl ?_
  intro pg ev s m args below meth cd s₁ B hml hv
  obtain ⟨rfl, hP, hK, hN, hZ⟩ := hv
  have hx := B.exec
  have hb := B.bytes
  have hr := B.returns
  have hts := atoms_spec (ws := wsX8_pixel) B.pre
  have hown : s.vm.findClass RX8 = some m.cls := findClass_of_methodNamed B.named
  have hlocks := B.notSynchronized
  have hS : va_S (fun _ => False) s.heap s.heap [] := va_S.rf
  have hk : hw_K (dC, dI) vwCl (ty3 cI cZ cJ) (fun _ => False) s := ⟨hK, hN, hZ⟩
  have hiX8 : ∀ w ∈ u_ws RX8 TX8 31, w ∈ wsX8_pixel := by decide +kernel
  have hl := lv_entry ([.ref m0, .int x, .int y]) (n := 3) (Nat.le_of_ble_eq_true rfl)
  rw [lg_entry_eq]
  generalize (lg_sl ([.ref m0, .int x, .int y]) ++ List.replicate (3 - (lg_sl ([.ref m0, .int x, .int y])).length) Slot.unset).toArray = ls at hl ⊢
  have hl : lv_has ls 3 [(0, .ref m0), (1, .int x), (2, .int y)] := hl
  refine lv_aload_n hx hb dX8_pixel_0 rfl (lv_at hl 0 rfl) ?_
  refine lv_iload_n hx hb dX8_pixel_1 rfl (lv_at hl 1 rfl) ?_
  refine lv_iload_n hx hb dX8_pixel_2 rfl (lv_at hl 2 rfl) ?_
  refine hw_callSe (va_runV (As := [.int x, .int y]) (rest := []) ⟨hx, hb, hml, hown, hts⟩ (c_X8_noPixel l dC dI cI cZ cJ m0 m1 m2 m3 m4 m5 m6 th tp ty sf 1 rt dx dy p0 q0 p1 q1 kp w h rwd rht k sk tr co b ma mc mt x y) (cwV 2 hts gX8_pixel_X8_noPixel rfl rfl rfl (by decide +kernel) ⟨Nat.le_of_ble_eq_true rfl, Nat.le_of_ble_eq_true rfl⟩) (hw_roV hP hS hk [0] rfl (ci := 7) (q0 := 0) rfl rfl) rfl rfl hl.1 rfl (lv_room (Nat.le_of_ble_eq_true rfl)) dX8_pixel_3 ⟨Nat.le_of_ble_eq_true rfl, Nat.le_of_ble_eq_true rfl⟩) ?_
  refine lv_if_eq (tgt := 11) hx hb dX8_pixel_6 (by decide) (fun c_6 => ?_) (fun c_6 => ?_)
  · refine lv_aload_n hx hb dX8_pixel_11 rfl (lv_at hl 0 rfl) ?_
    refine va_get (D := (dC, dI)) (ci := 7) (v := .int 1) (C := RX8) (T := TX8) (N := 31) hx hb hts hiX8 hown hK hP 0 rfl rfl 9 (by decide) (hts (.fieldLink RX8 87 "RefineRegionsModel" "reading" "Z") (by decide +kernel)) (fun _ h9 => h9) rfl dX8_pixel_12 ?_
    refine lv_if_eq (tgt := 35) hx hb dX8_pixel_15 (by decide) (fun c9 => absurd c9 (by decide)) (fun _ => ?_)
    refine lv_aload_n hx hb dX8_pixel_18 rfl (lv_at hl 0 rfl) ?_
    refine va_get (D := (dC, dI)) (ci := 7) (v := .ref m3) (C := RX8) (T := TX8) (N := 31) hx hb hts hiX8 hown hK hP 0 rfl rfl 7 (by decide) (hts (.fieldLink RX8 24 "RefineRegionsModel" "read" "[Z") (by decide +kernel)) (fun _ h9 => h9) rfl dX8_pixel_19 ?_
    refine lv_bipush (v := 40) hx hb dX8_pixel_22 (by decide) ?_
    refine lv_iload_n hx hb dX8_pixel_24 rfl (lv_at hl 2 rfl) ?_
    refine lv_imul hx hb dX8_pixel_25 ?_
    refine lv_iload_n hx hb dX8_pixel_26 rfl (lv_at hl 1 rfl) ?_
    refine lv_iadd hx hb dX8_pixel_27 ?_
    refine va_zald hx hb hK hP 1 1 rfl rfl (by rw [Int32.mul_comm]; exact sp_ho_ix (n := 40) (by decide) hw1 hh1 (sp_no_1 c_6)) dX8_pixel_28 ?_
    refine lv_if_eq (tgt := 53) hx hb dX8_pixel_29 (by decide) (fun c_29 => ?_) (fun c_29 => ?_)
    · refine lv_iconst (v := 0) hx hb dX8_pixel_53 (by decide) ?_
      exact W.iret (v := 0) hx hb hr (fun t ht hW => ⟨0, rfl, by rw [sp_px_ho1 (sp_no_1 c_6), Int32.mul_comm]; exact (c_29).symm, ht⟩) hS.2.2 dX8_pixel_54
    · refine lv_goto (tgt := 49) hx hb dX8_pixel_32 (by decide) ?_
      refine lv_iconst (v := 1) hx hb dX8_pixel_49 (by decide) ?_
      refine lv_goto (tgt := 54) hx hb dX8_pixel_50 (by decide) ?_
      exact W.iret (v := 1) hx hb hr (fun t ht hW => ⟨1, rfl, by rw [sp_px_ho1 (sp_no_1 c_6), Int32.mul_comm]; exact ((h01 _).resolve_left c_29).symm, ht⟩) hS.2.2 dX8_pixel_54
  · refine lv_iconst (v := 0) hx hb dX8_pixel_9 (by decide) ?_
    exact W.iret (v := 0) hx hb hr (fun t ht hW => ⟨0, rfl, (sp_px_ho (sp_no_0 c_6)).symm, ht⟩) hS.2.2 dX8_pixel_10

set_option maxHeartbeats 4000000 in
set_option maxRecDepth 100000 in
/-- referred(x, y) -/
theorem c_X8_referred (l : Launch) (dC : Nat → ClassId) (dI : Nat → Nat → Nat) (cI cZ cJ : ClassId) (m0 : Nat) (m1 : Nat) (m2 : Nat) (m3 : Nat) (m4 : Nat) (m5 : Nat) (m6 : Nat) (th : Int32) (tp : Int32) (ty : Int32) (sf : Int32) (rdg : Int32) (rt : Int32) (dx : Int32) (dy : Int32) (p0 : Int32) (q0 : Int32) (p1 : Int32) (q1 : Int32) (kp : Int32) (w : Nat) (h : Nat) (rwd : Nat) (rht : Nat) (k : Nat) (sk : Nat) (tr : Nat) (co : Nat) (b : Nat) (ma : Int64) (mc : Int64) (mt : Int32) (rg : Nat → Int32) (x : Int32) (y : Int32) (hrw : rwd ≤ 60) (hrh : rht ≤ 60) (h01 : sp_01 rg) : Met l yX8_referred wsX8_referred ({ frames := 0, cells := 0, slots := 0, locals := 0 }) (hw_Ro (dC, dI) vwCl (ty3 cI cZ cJ) [(m0, .inr (7, [.int th, .ref m1, .int (nI w), .int (nI h), .int tp, .int ty, .ref m2, .ref m3, .int sf, .int rdg, .int rt, .int (nI rwd), .int (nI rht), .ref m4, .int dx, .int dy, .int p0, .int q0, .int p1, .int q1, .int kp, .ref m5, .ref m6, .int (nI k), .int (nI sk), .int (nI tr), .int (nI co), .long ma, .long mc, .int mt, .int (nI b)])), (m4, .inl (cZ, 3600, .inl rg))] [.ref m0, .int x, .int y]) (vp_Si (fun r => r = sp_rf (nI rwd) (nI rht) rg dx dy x y)) 0 0 (fun _ => False) := by
  refine Met.ofW (cc := cX8_referred) (maxL := 5) (ret := (some .int)) (by decide) rfl ?_
  intro pg ev s m args below meth cd s₁ B hml hv
  obtain ⟨rfl, hP, hK, hN, hZ⟩ := hv
  have hx := B.exec
  have hb := B.bytes
  have hr := B.returns
  have hts := atoms_spec (ws := wsX8_referred) B.pre
  have hown : s.vm.findClass RX8 = some m.cls := findClass_of_methodNamed B.named
  have hlocks := B.notSynchronized
  have hS : va_S (fun _ => False) s.heap s.heap [] := va_S.rf
  have hk : hw_K (dC, dI) vwCl (ty3 cI cZ cJ) (fun _ => False) s := ⟨hK, hN, hZ⟩
  have hiX8 : ∀ w ∈ u_ws RX8 TX8 31, w ∈ wsX8_referred := by decide +kernel
  have hl := lv_entry ([.ref m0, .int x, .int y]) (n := 5) (Nat.le_of_ble_eq_true rfl)
  rw [lg_entry_eq]
  generalize (lg_sl ([.ref m0, .int x, .int y]) ++ List.replicate (5 - (lg_sl ([.ref m0, .int x, .int y])).length) Slot.unset).toArray = ls at hl ⊢
  have hl : lv_has ls 5 [(0, .ref m0), (1, .int x), (2, .int y)] := hl
  refine lv_iload_n hx hb dX8_referred_0 rfl (lv_at hl 1 rfl) ?_
  refine lv_aload_n hx hb dX8_referred_1 rfl (lv_at hl 0 rfl) ?_
  refine va_get (D := (dC, dI)) (ci := 7) (v := .int dx) (C := RX8) (T := TX8) (N := 31) hx hb hts hiX8 hown hK hP 0 rfl rfl 14 (by decide) (hts (.fieldLink RX8 74 "RefineRegionsModel" "dx" "I") (by decide +kernel)) (fun _ h9 => h9) rfl dX8_referred_2 ?_
  refine lv_isub hx hb dX8_referred_5 ?_
  refine lv_istore_n (lv' := [(3, .int (x - dx)), (0, .ref m0), (1, .int x), (2, .int y)]) hx hb dX8_referred_6 rfl hl (by decide) rfl (fun ls hl => ?_)
  refine lv_iload_n hx hb dX8_referred_7 rfl (lv_at hl 3 rfl) ?_
  refine lv_aload_n hx hb dX8_referred_8 rfl (lv_at hl 1 rfl) ?_
  refine va_get (D := (dC, dI)) (ci := 7) (v := .int dy) (C := RX8) (T := TX8) (N := 31) hx hb hts hiX8 hown hK hP 0 rfl rfl 15 (by decide) (hts (.fieldLink RX8 77 "RefineRegionsModel" "dy" "I") (by decide +kernel)) (fun _ h9 => h9) rfl dX8_referred_9 ?_
  refine lv_isub hx hb dX8_referred_12 ?_
  refine lv_istore (lv' := [(4, .int (y - dy)), (3, .int (x - dx)), (0, .ref m0), (1, .int x), (2, .int y)]) hx hb dX8_referred_13 hl (by decide) rfl (fun ls hl => ?_)
  refine lv_iload_n hx hb dX8_referred_15 rfl (lv_at hl 1 rfl) ?_
  refine lv_if_lt (tgt := 41) hx hb dX8_referred_16 (by decide) (fun c_16 => ?_) (fun c_16 => ?_)
  · refine lv_iconst (v := 0) hx hb dX8_referred_41 (by decide) ?_
    refine lv_goto (tgt := 65) hx hb dX8_referred_42 (by decide) ?_
    exact W.iret (v := 0) hx hb hr (fun t ht hW => ⟨0, rfl, (sp_px_out (by first | exact Or.inl c_16 | exact Or.inr (Or.inl c_29) | exact Or.inr (Or.inr (Or.inl c_21)) | exact Or.inr (Or.inr (Or.inr (Int32.not_lt.mp c_38))))).symm, ht⟩) hS.2.2 dX8_referred_65
  · refine lv_iload hx hb dX8_referred_19 (lv_at hl 0 rfl) ?_
    refine lv_if_lt (tgt := 41) hx hb dX8_referred_21 (by decide) (fun c_21 => ?_) (fun c_21 => ?_)
    · refine lv_iconst (v := 0) hx hb dX8_referred_41 (by decide) ?_
      refine lv_goto (tgt := 65) hx hb dX8_referred_42 (by decide) ?_
      exact W.iret (v := 0) hx hb hr (fun t ht hW => ⟨0, rfl, (sp_px_out (by first | exact Or.inl c_16 | exact Or.inr (Or.inl c_29) | exact Or.inr (Or.inr (Or.inl c_21)) | exact Or.inr (Or.inr (Or.inr (Int32.not_lt.mp c_38))))).symm, ht⟩) hS.2.2 dX8_referred_65
    · refine lv_iload_n hx hb dX8_referred_24 rfl (lv_at hl 1 rfl) ?_
      refine lv_aload_n hx hb dX8_referred_25 rfl (lv_at hl 2 rfl) ?_
      refine va_get (D := (dC, dI)) (ci := 7) (v := .int (nI rwd)) (C := RX8) (T := TX8) (N := 31) hx hb hts hiX8 hown hK hP 0 rfl rfl 11 (by decide) (hts (.fieldLink RX8 68 "RefineRegionsModel" "wide" "I") (by decide +kernel)) (fun _ h9 => h9) rfl dX8_referred_26 ?_
      refine lv_icmp_ge (tgt := 41) hx hb dX8_referred_29 (by decide) (fun c_29 => ?_) (fun c_29 => ?_)
      · refine lv_iconst (v := 0) hx hb dX8_referred_41 (by decide) ?_
        refine lv_goto (tgt := 65) hx hb dX8_referred_42 (by decide) ?_
        exact W.iret (v := 0) hx hb hr (fun t ht hW => ⟨0, rfl, (sp_px_out (by first | exact Or.inl c_16 | exact Or.inr (Or.inl c_29) | exact Or.inr (Or.inr (Or.inl c_21)) | exact Or.inr (Or.inr (Or.inr (Int32.not_lt.mp c_38))))).symm, ht⟩) hS.2.2 dX8_referred_65
      · refine lv_iload hx hb dX8_referred_32 (lv_at hl 0 rfl) ?_
        refine lv_aload_n hx hb dX8_referred_34 rfl (lv_at hl 2 rfl) ?_
        refine va_get (D := (dC, dI)) (ci := 7) (v := .int (nI rht)) (C := RX8) (T := TX8) (N := 31) hx hb hts hiX8 hown hK hP 0 rfl rfl 12 (by decide) (hts (.fieldLink RX8 71 "RefineRegionsModel" "high" "I") (by decide +kernel)) (fun _ h9 => h9) rfl dX8_referred_35 ?_
        refine lv_icmp_lt (tgt := 45) hx hb dX8_referred_38 (by decide) (fun c_38 => ?_) (fun c_38 => ?_)
        · refine lv_aload_n hx hb dX8_referred_45 rfl (lv_at hl 2 rfl) ?_
          refine va_get (D := (dC, dI)) (ci := 7) (v := .ref m4) (C := RX8) (T := TX8) (N := 31) hx hb hts hiX8 hown hK hP 0 rfl rfl 13 (by decide) (hts (.fieldLink RX8 27 "RefineRegionsModel" "reference" "[Z") (by decide +kernel)) (fun _ h9 => h9) rfl dX8_referred_46 ?_
          refine lv_bipush (v := 60) hx hb dX8_referred_49 (by decide) ?_
          refine lv_iload hx hb dX8_referred_51 (lv_at hl 0 rfl) ?_
          refine lv_imul hx hb dX8_referred_53 ?_
          refine lv_iload_n hx hb dX8_referred_54 rfl (lv_at hl 1 rfl) ?_
          refine lv_iadd hx hb dX8_referred_55 ?_
          refine va_zald hx hb hK hP 1 1 rfl rfl (by rw [Int32.mul_comm]; exact sp_ixin (n := 60) (by decide) hrw hrh c_16 c_29 c_21 (Int32.not_le.mpr c_38)) dX8_referred_56 ?_
          refine lv_if_eq (tgt := 64) hx hb dX8_referred_57 (by decide) (fun c_57 => ?_) (fun c_57 => ?_)
          · refine lv_iconst (v := 0) hx hb dX8_referred_64 (by decide) ?_
            exact W.iret (v := 0) hx hb hr (fun t ht hW => ⟨0, rfl, by unfold sp_rf; rw [sp_px_in c_16 c_29 c_21 (Int32.not_le.mpr c_38), Int32.mul_comm]; exact c_57.symm, ht⟩) hS.2.2 dX8_referred_65
          · refine lv_iconst (v := 1) hx hb dX8_referred_60 (by decide) ?_
            refine lv_goto (tgt := 65) hx hb dX8_referred_61 (by decide) ?_
            exact W.iret (v := 1) hx hb hr (fun t ht hW => ⟨1, rfl, by unfold sp_rf; rw [sp_px_in c_16 c_29 c_21 (Int32.not_le.mpr c_38), Int32.mul_comm]; exact ((h01 _).resolve_left c_57).symm, ht⟩) hS.2.2 dX8_referred_65
        · refine lv_iconst (v := 0) hx hb dX8_referred_41 (by decide) ?_
          refine lv_goto (tgt := 65) hx hb dX8_referred_42 (by decide) ?_
          exact W.iret (v := 0) hx hb hr (fun t ht hW => ⟨0, rfl, (sp_px_out (by first | exact Or.inl c_16 | exact Or.inr (Or.inl c_29) | exact Or.inr (Or.inr (Or.inl c_21)) | exact Or.inr (Or.inr (Or.inr (Int32.not_lt.mp c_38))))).symm, ht⟩) hS.2.2 dX8_referred_65

set_option maxHeartbeats 4000000 in
set_option maxRecDepth 100000 in
/-- nine(x, y) -/
theorem c_X8_nine (l : Launch) (dC : Nat → ClassId) (dI : Nat → Nat → Nat) (cI cZ cJ : ClassId) (m0 : Nat) (m1 : Nat) (m2 : Nat) (m3 : Nat) (m4 : Nat) (m5 : Nat) (m6 : Nat) (th : Int32) (tp : Int32) (ty : Int32) (sf : Int32) (rdg : Int32) (rt : Int32) (dx : Int32) (dy : Int32) (p0 : Int32) (q0 : Int32) (p1 : Int32) (q1 : Int32) (kp : Int32) (w : Nat) (h : Nat) (rwd : Nat) (rht : Nat) (k : Nat) (sk : Nat) (tr : Nat) (co : Nat) (b : Nat) (ma : Int64) (mc : Int64) (mt : Int32) (rg : Nat → Int32) (x : Int32) (y : Int32) (hrw : rwd ≤ 60) (hrh : rht ≤ 60) (h01 : sp_01 rg) : Met l yX8_nine wsX8_nine ({ frames := 1, cells := 0, slots := 0, locals := 24 }) (hw_Ro (dC, dI) vwCl (ty3 cI cZ cJ) [(m0, .inr (7, [.int th, .ref m1, .int (nI w), .int (nI h), .int tp, .int ty, .ref m2, .ref m3, .int sf, .int rdg, .int rt, .int (nI rwd), .int (nI rht), .ref m4, .int dx, .int dy, .int p0, .int q0, .int p1, .int q1, .int kp, .ref m5, .ref m6, .int (nI k), .int (nI sk), .int (nI tr), .int (nI co), .long ma, .long mc, .int mt, .int (nI b)])), (m4, .inl (cZ, 3600, .inl rg))] [.ref m0, .int x, .int y]) (vp_Si (fun r => r = sp_nine (sp_rf (nI rwd) (nI rht) rg dx dy) x y)) 0 0 (fun _ => False) := by
  refine Met.ofW (cc := cX8_nine) (maxL := 5) (ret := (some .int)) (by decide) rfl ?_
  intro pg ev s m args below meth cd s₁ B hml hv
  obtain ⟨rfl, hP, hK, hN, hZ⟩ := hv
  have hx := B.exec
  have hb := B.bytes
  have hr := B.returns
  have hts := atoms_spec (ws := wsX8_nine) B.pre
  have hown : s.vm.findClass RX8 = some m.cls := findClass_of_methodNamed B.named
  have hlocks := B.notSynchronized
  have hS : va_S (fun _ => False) s.heap s.heap [] := va_S.rf
  have hk : hw_K (dC, dI) vwCl (ty3 cI cZ cJ) (fun _ => False) s := ⟨hK, hN, hZ⟩
  have hl := lv_entry ([.ref m0, .int x, .int y]) (n := 5) (Nat.le_of_ble_eq_true rfl)
  rw [lg_entry_eq]
  generalize (lg_sl ([.ref m0, .int x, .int y]) ++ List.replicate (5 - (lg_sl ([.ref m0, .int x, .int y])).length) Slot.unset).toArray = ls at hl ⊢
  have hl : lv_has ls 5 [(0, .ref m0), (1, .int x), (2, .int y)] := hl
  refine lv_iconst (v := 0) hx hb dX8_nine_0 (by decide) ?_
  refine lv_istore_n (lv' := [(3, .int 0), (0, .ref m0), (1, .int x), (2, .int y)]) hx hb dX8_nine_1 rfl hl (by decide) rfl (fun ls hl => ?_)
  refine lv_iconst (v := 0) hx hb dX8_nine_2 (by decide) ?_
  refine lv_istore (lv' := [(4, .int 0), (3, .int 0), (0, .ref m0), (1, .int x), (2, .int y)]) hx hb dX8_nine_3 hl (by decide) rfl (fun ls hl => ?_)
  refine lv_iload hx hb dX8_nine_5 (lv_at hl 0 rfl) ?_
  refine lv_bipush (v := 9) hx hb dX8_nine_7 (by decide) ?_
  refine lv_icmp_ge (tgt := 41) hx hb dX8_nine_9 (by decide) (fun c9 => absurd c9 (by decide)) (fun _ => ?_)
  refine lv_iload_n hx hb dX8_nine_12 rfl (lv_at hl 1 rfl) ?_
  refine lv_aload_n hx hb dX8_nine_13 rfl (lv_at hl 2 rfl) ?_
  refine lv_iload_n hx hb dX8_nine_14 rfl (lv_at hl 3 rfl) ?_
  refine lv_iload hx hb dX8_nine_15 (lv_at hl 0 rfl) ?_
  refine lv_iconst (v := 3) hx hb dX8_nine_17 (by decide) ?_
  refine lv_irem hx hb dX8_nine_18 (by decide) ?_
  refine hw_i (y := 0) (by decide) ?_
  refine lv_iadd hx hb dX8_nine_19 ?_
  refine lv_iconst (v := 1) hx hb dX8_nine_20 (by decide) ?_
  refine lv_isub hx hb dX8_nine_21 ?_
  refine lv_iload_n hx hb dX8_nine_22 rfl (lv_at hl 4 rfl) ?_
  refine lv_iload hx hb dX8_nine_23 (lv_at hl 0 rfl) ?_
  refine lv_iconst (v := 3) hx hb dX8_nine_25 (by decide) ?_
  refine lv_idiv hx hb dX8_nine_26 (by decide) ?_
  refine hw_i (y := 0) (by decide) ?_
  refine lv_iadd hx hb dX8_nine_27 ?_
  refine lv_iconst (v := 1) hx hb dX8_nine_28 (by decide) ?_
  refine lv_isub hx hb dX8_nine_29 ?_
  refine hw_callSe (va_runV (As := [.int ((x + 0) - 1), .int ((y + 0) - 1)]) (rest := [.int 0]) ⟨hx, hb, hml, hown, hts⟩ (c_X8_referred l dC dI cI cZ cJ m0 m1 m2 m3 m4 m5 m6 th tp ty sf rdg rt dx dy p0 q0 p1 q1 kp w h rwd rht k sk tr co b ma mc mt rg ((x + 0) - 1) ((y + 0) - 1) (hrw) (hrh) (h01)) (cwV 2 hts gX8_nine_X8_referred rfl rfl rfl (by decide +kernel) ⟨Nat.le_of_ble_eq_true rfl, Nat.le_of_ble_eq_true rfl⟩) (hw_roV hP hS hk [0, 1] rfl (ci := 7) (q0 := 0) rfl rfl) rfl rfl hl.1 rfl (lv_room (Nat.le_of_ble_eq_true rfl)) dX8_nine_30 ⟨Nat.le_of_ble_eq_true rfl, Nat.le_of_ble_eq_true rfl⟩) ?_
  refine lv_iadd hx hb dX8_nine_33 ?_
  refine lv_istore_n (lv' := [(3, .int (0 + (sp_rf (nI rwd) (nI rht) rg dx dy ((x + 0) - 1) ((y + 0) - 1)))), (4, .int 0), (0, .ref m0), (1, .int x), (2, .int y)]) hx hb dX8_nine_34 rfl hl (by decide) rfl (fun ls hl => ?_)
  refine lv_iinc (v := 1) (lv' := [(4, .int 1), (3, .int (0 + (sp_rf (nI rwd) (nI rht) rg dx dy ((x + 0) - 1) ((y + 0) - 1)))), (0, .ref m0), (1, .int x), (2, .int y)]) hx hb dX8_nine_35 hl (k := 1) rfl (by decide) (by decide) rfl (fun ls hl => ?_)
  refine lv_goto (tgt := 5) hx hb dX8_nine_38 (by decide) ?_
  refine lv_iload hx hb dX8_nine_5 (lv_at hl 0 rfl) ?_
  refine lv_bipush (v := 9) hx hb dX8_nine_7 (by decide) ?_
  refine lv_icmp_ge (tgt := 41) hx hb dX8_nine_9 (by decide) (fun c9 => absurd c9 (by decide)) (fun _ => ?_)
  refine lv_iload_n hx hb dX8_nine_12 rfl (lv_at hl 1 rfl) ?_
  refine lv_aload_n hx hb dX8_nine_13 rfl (lv_at hl 2 rfl) ?_
  refine lv_iload_n hx hb dX8_nine_14 rfl (lv_at hl 3 rfl) ?_
  refine lv_iload hx hb dX8_nine_15 (lv_at hl 0 rfl) ?_
  refine lv_iconst (v := 3) hx hb dX8_nine_17 (by decide) ?_
  refine lv_irem hx hb dX8_nine_18 (by decide) ?_
  refine hw_i (y := 1) (by decide) ?_
  refine lv_iadd hx hb dX8_nine_19 ?_
  refine lv_iconst (v := 1) hx hb dX8_nine_20 (by decide) ?_
  refine lv_isub hx hb dX8_nine_21 ?_
  refine lv_iload_n hx hb dX8_nine_22 rfl (lv_at hl 4 rfl) ?_
  refine lv_iload hx hb dX8_nine_23 (lv_at hl 0 rfl) ?_
  refine lv_iconst (v := 3) hx hb dX8_nine_25 (by decide) ?_
  refine lv_idiv hx hb dX8_nine_26 (by decide) ?_
  refine hw_i (y := 0) (by decide) ?_
  refine lv_iadd hx hb dX8_nine_27 ?_
  refine lv_iconst (v := 1) hx hb dX8_nine_28 (by decide) ?_
  refine lv_isub hx hb dX8_nine_29 ?_
  refine hw_callSe (va_runV (As := [.int ((x + 1) - 1), .int ((y + 0) - 1)]) (rest := [.int (0 + (sp_rf (nI rwd) (nI rht) rg dx dy ((x + 0) - 1) ((y + 0) - 1)))]) ⟨hx, hb, hml, hown, hts⟩ (c_X8_referred l dC dI cI cZ cJ m0 m1 m2 m3 m4 m5 m6 th tp ty sf rdg rt dx dy p0 q0 p1 q1 kp w h rwd rht k sk tr co b ma mc mt rg ((x + 1) - 1) ((y + 0) - 1) (hrw) (hrh) (h01)) (cwV 2 hts gX8_nine_X8_referred rfl rfl rfl (by decide +kernel) ⟨Nat.le_of_ble_eq_true rfl, Nat.le_of_ble_eq_true rfl⟩) (hw_roV hP hS hk [0, 1] rfl (ci := 7) (q0 := 0) rfl rfl) rfl rfl hl.1 rfl (lv_room (Nat.le_of_ble_eq_true rfl)) dX8_nine_30 ⟨Nat.le_of_ble_eq_true rfl, Nat.le_of_ble_eq_true rfl⟩) ?_
  refine lv_iadd hx hb dX8_nine_33 ?_
  refine lv_istore_n (lv' := [(3, .int ((0 + (sp_rf (nI rwd) (nI rht) rg dx dy ((x + 0) - 1) ((y + 0) - 1))) + (sp_rf (nI rwd) (nI rht) rg dx dy ((x + 1) - 1) ((y + 0) - 1)))), (4, .int 1), (0, .ref m0), (1, .int x), (2, .int y)]) hx hb dX8_nine_34 rfl hl (by decide) rfl (fun ls hl => ?_)
  refine lv_iinc (v := 2) (lv' := [(4, .int 2), (3, .int ((0 + (sp_rf (nI rwd) (nI rht) rg dx dy ((x + 0) - 1) ((y + 0) - 1))) + (sp_rf (nI rwd) (nI rht) rg dx dy ((x + 1) - 1) ((y + 0) - 1)))), (0, .ref m0), (1, .int x), (2, .int y)]) hx hb dX8_nine_35 hl (k := 1) rfl (by decide) (by decide) rfl (fun ls hl => ?_)
  refine lv_goto (tgt := 5) hx hb dX8_nine_38 (by decide) ?_
  refine lv_iload hx hb dX8_nine_5 (lv_at hl 0 rfl) ?_
  refine lv_bipush (v := 9) hx hb dX8_nine_7 (by decide) ?_
  refine lv_icmp_ge (tgt := 41) hx hb dX8_nine_9 (by decide) (fun c9 => absurd c9 (by decide)) (fun _ => ?_)
  refine lv_iload_n hx hb dX8_nine_12 rfl (lv_at hl 1 rfl) ?_
  refine lv_aload_n hx hb dX8_nine_13 rfl (lv_at hl 2 rfl) ?_
  refine lv_iload_n hx hb dX8_nine_14 rfl (lv_at hl 3 rfl) ?_
  refine lv_iload hx hb dX8_nine_15 (lv_at hl 0 rfl) ?_
  refine lv_iconst (v := 3) hx hb dX8_nine_17 (by decide) ?_
  refine lv_irem hx hb dX8_nine_18 (by decide) ?_
  refine hw_i (y := 2) (by decide) ?_
  refine lv_iadd hx hb dX8_nine_19 ?_
  refine lv_iconst (v := 1) hx hb dX8_nine_20 (by decide) ?_
  refine lv_isub hx hb dX8_nine_21 ?_
  refine lv_iload_n hx hb dX8_nine_22 rfl (lv_at hl 4 rfl) ?_
  refine lv_iload hx hb dX8_nine_23 (lv_at hl 0 rfl) ?_
  refine lv_iconst (v := 3) hx hb dX8_nine_25 (by decide) ?_
  refine lv_idiv hx hb dX8_nine_26 (by decide) ?_
  refine hw_i (y := 0) (by decide) ?_
  refine lv_iadd hx hb dX8_nine_27 ?_
  refine lv_iconst (v := 1) hx hb dX8_nine_28 (by decide) ?_
  refine lv_isub hx hb dX8_nine_29 ?_
  refine hw_callSe (va_runV (As := [.int ((x + 2) - 1), .int ((y + 0) - 1)]) (rest := [.int ((0 + (sp_rf (nI rwd) (nI rht) rg dx dy ((x + 0) - 1) ((y + 0) - 1))) + (sp_rf (nI rwd) (nI rht) rg dx dy ((x + 1) - 1) ((y + 0) - 1)))]) ⟨hx, hb, hml, hown, hts⟩ (c_X8_referred l dC dI cI cZ cJ m0 m1 m2 m3 m4 m5 m6 th tp ty sf rdg rt dx dy p0 q0 p1 q1 kp w h rwd rht k sk tr co b ma mc mt rg ((x + 2) - 1) ((y + 0) - 1) (hrw) (hrh) (h01)) (cwV 2 hts gX8_nine_X8_referred rfl rfl rfl (by decide +kernel) ⟨Nat.le_of_ble_eq_true rfl, Nat.le_of_ble_eq_true rfl⟩) (hw_roV hP hS hk [0, 1] rfl (ci := 7) (q0 := 0) rfl rfl) rfl rfl hl.1 rfl (lv_room (Nat.le_of_ble_eq_true rfl)) dX8_nine_30 ⟨Nat.le_of_ble_eq_true rfl, Nat.le_of_ble_eq_true rfl⟩) ?_
  refine lv_iadd hx hb dX8_nine_33 ?_
  refine lv_istore_n (lv' := [(3, .int (((0 + (sp_rf (nI rwd) (nI rht) rg dx dy ((x + 0) - 1) ((y + 0) - 1))) + (sp_rf (nI rwd) (nI rht) rg dx dy ((x + 1) - 1) ((y + 0) - 1))) + (sp_rf (nI rwd) (nI rht) rg dx dy ((x + 2) - 1) ((y + 0) - 1)))), (4, .int 2), (0, .ref m0), (1, .int x), (2, .int y)]) hx hb dX8_nine_34 rfl hl (by decide) rfl (fun ls hl => ?_)
  refine lv_iinc (v := 3) (lv' := [(4, .int 3), (3, .int (((0 + (sp_rf (nI rwd) (nI rht) rg dx dy ((x + 0) - 1) ((y + 0) - 1))) + (sp_rf (nI rwd) (nI rht) rg dx dy ((x + 1) - 1) ((y + 0) - 1))) + (sp_rf (nI rwd) (nI rht) rg dx dy ((x + 2) - 1) ((y + 0) - 1)))), (0, .ref m0), (1, .int x), (2, .int y)]) hx hb dX8_nine_35 hl (k := 1) rfl (by decide) (by decide) rfl (fun ls hl => ?_)
  refine lv_goto (tgt := 5) hx hb dX8_nine_38 (by decide) ?_
  refine lv_iload hx hb dX8_nine_5 (lv_at hl 0 rfl) ?_
  refine lv_bipush (v := 9) hx hb dX8_nine_7 (by decide) ?_
  refine lv_icmp_ge (tgt := 41) hx hb dX8_nine_9 (by decide) (fun c9 => absurd c9 (by decide)) (fun _ => ?_)
  refine lv_iload_n hx hb dX8_nine_12 rfl (lv_at hl 1 rfl) ?_
  refine lv_aload_n hx hb dX8_nine_13 rfl (lv_at hl 2 rfl) ?_
  refine lv_iload_n hx hb dX8_nine_14 rfl (lv_at hl 3 rfl) ?_
  refine lv_iload hx hb dX8_nine_15 (lv_at hl 0 rfl) ?_
  refine lv_iconst (v := 3) hx hb dX8_nine_17 (by decide) ?_
  refine lv_irem hx hb dX8_nine_18 (by decide) ?_
  refine hw_i (y := 0) (by decide) ?_
  refine lv_iadd hx hb dX8_nine_19 ?_
  refine lv_iconst (v := 1) hx hb dX8_nine_20 (by decide) ?_
  refine lv_isub hx hb dX8_nine_21 ?_
  refine lv_iload_n hx hb dX8_nine_22 rfl (lv_at hl 4 rfl) ?_
  refine lv_iload hx hb dX8_nine_23 (lv_at hl 0 rfl) ?_
  refine lv_iconst (v := 3) hx hb dX8_nine_25 (by decide) ?_
  refine lv_idiv hx hb dX8_nine_26 (by decide) ?_
  refine hw_i (y := 1) (by decide) ?_
  refine lv_iadd hx hb dX8_nine_27 ?_
  refine lv_iconst (v := 1) hx hb dX8_nine_28 (by decide) ?_
  refine lv_isub hx hb dX8_nine_29 ?_
  refine hw_callSe (va_runV (As := [.int ((x + 0) - 1), .int ((y + 1) - 1)]) (rest := [.int (((0 + (sp_rf (nI rwd) (nI rht) rg dx dy ((x + 0) - 1) ((y + 0) - 1))) + (sp_rf (nI rwd) (nI rht) rg dx dy ((x + 1) - 1) ((y + 0) - 1))) + (sp_rf (nI rwd) (nI rht) rg dx dy ((x + 2) - 1) ((y + 0) - 1)))]) ⟨hx, hb, hml, hown, hts⟩ (c_X8_referred l dC dI cI cZ cJ m0 m1 m2 m3 m4 m5 m6 th tp ty sf rdg rt dx dy p0 q0 p1 q1 kp w h rwd rht k sk tr co b ma mc mt rg ((x + 0) - 1) ((y + 1) - 1) (hrw) (hrh) (h01)) (cwV 2 hts gX8_nine_X8_referred rfl rfl rfl (by decide +kernel) ⟨Nat.le_of_ble_eq_true rfl, Nat.le_of_ble_eq_true rfl⟩) (hw_roV hP hS hk [0, 1] rfl (ci := 7) (q0 := 0) rfl rfl) rfl rfl hl.1 rfl (lv_room (Nat.le_of_ble_eq_true rfl)) dX8_nine_30 ⟨Nat.le_of_ble_eq_true rfl, Nat.le_of_ble_eq_true rfl⟩) ?_
  refine lv_iadd hx hb dX8_nine_33 ?_
  refine lv_istore_n (lv' := [(3, .int ((((0 + (sp_rf (nI rwd) (nI rht) rg dx dy ((x + 0) - 1) ((y + 0) - 1))) + (sp_rf (nI rwd) (nI rht) rg dx dy ((x + 1) - 1) ((y + 0) - 1))) + (sp_rf (nI rwd) (nI rht) rg dx dy ((x + 2) - 1) ((y + 0) - 1))) + (sp_rf (nI rwd) (nI rht) rg dx dy ((x + 0) - 1) ((y + 1) - 1)))), (4, .int 3), (0, .ref m0), (1, .int x), (2, .int y)]) hx hb dX8_nine_34 rfl hl (by decide) rfl (fun ls hl => ?_)
  refine lv_iinc (v := 4) (lv' := [(4, .int 4), (3, .int ((((0 + (sp_rf (nI rwd) (nI rht) rg dx dy ((x + 0) - 1) ((y + 0) - 1))) + (sp_rf (nI rwd) (nI rht) rg dx dy ((x + 1) - 1) ((y + 0) - 1))) + (sp_rf (nI rwd) (nI rht) rg dx dy ((x + 2) - 1) ((y + 0) - 1))) + (sp_rf (nI rwd) (nI rht) rg dx dy ((x + 0) - 1) ((y + 1) - 1)))), (0, .ref m0), (1, .int x), (2, .int y)]) hx hb dX8_nine_35 hl (k := 1) rfl (by decide) (by decide) rfl (fun ls hl => ?_)
  refine lv_goto (tgt := 5) hx hb dX8_nine_38 (by decide) ?_
  refine lv_iload hx hb dX8_nine_5 (lv_at hl 0 rfl) ?_
  refine lv_bipush (v := 9) hx hb dX8_nine_7 (by decide) ?_
  refine lv_icmp_ge (tgt := 41) hx hb dX8_nine_9 (by decide) (fun c9 => absurd c9 (by decide)) (fun _ => ?_)
  refine lv_iload_n hx hb dX8_nine_12 rfl (lv_at hl 1 rfl) ?_
  refine lv_aload_n hx hb dX8_nine_13 rfl (lv_at hl 2 rfl) ?_
  refine lv_iload_n hx hb dX8_nine_14 rfl (lv_at hl 3 rfl) ?_
  refine lv_iload hx hb dX8_nine_15 (lv_at hl 0 rfl) ?_
  refine lv_iconst (v := 3) hx hb dX8_nine_17 (by decide) ?_
  refine lv_irem hx hb dX8_nine_18 (by decide) ?_
  refine hw_i (y := 1) (by decide) ?_
  refine lv_iadd hx hb dX8_nine_19 ?_
  refine lv_iconst (v := 1) hx hb dX8_nine_20 (by decide) ?_
  refine lv_isub hx hb dX8_nine_21 ?_
  refine lv_iload_n hx hb dX8_nine_22 rfl (lv_at hl 4 rfl) ?_
  refine lv_iload hx hb dX8_nine_23 (lv_at hl 0 rfl) ?_
  refine lv_iconst (v := 3) hx hb dX8_nine_25 (by decide) ?_
  refine lv_idiv hx hb dX8_nine_26 (by decide) ?_
  refine hw_i (y := 1) (by decide) ?_
  refine lv_iadd hx hb dX8_nine_27 ?_
  refine lv_iconst (v := 1) hx hb dX8_nine_28 (by decide) ?_
  refine lv_isub hx hb dX8_nine_29 ?_
  refine hw_callSe (va_runV (As := [.int ((x + 1) - 1), .int ((y + 1) - 1)]) (rest := [.int ((((0 + (sp_rf (nI rwd) (nI rht) rg dx dy ((x + 0) - 1) ((y + 0) - 1))) + (sp_rf (nI rwd) (nI rht) rg dx dy ((x + 1) - 1) ((y + 0) - 1))) + (sp_rf (nI rwd) (nI rht) rg dx dy ((x + 2) - 1) ((y + 0) - 1))) + (sp_rf (nI rwd) (nI rht) rg dx dy ((x + 0) - 1) ((y + 1) - 1)))]) ⟨hx, hb, hml, hown, hts⟩ (c_X8_referred l dC dI cI cZ cJ m0 m1 m2 m3 m4 m5 m6 th tp ty sf rdg rt dx dy p0 q0 p1 q1 kp w h rwd rht k sk tr co b ma mc mt rg ((x + 1) - 1) ((y + 1) - 1) (hrw) (hrh) (h01)) (cwV 2 hts gX8_nine_X8_referred rfl rfl rfl (by decide +kernel) ⟨Nat.le_of_ble_eq_true rfl, Nat.le_of_ble_eq_true rfl⟩) (hw_roV hP hS hk [0, 1] rfl (ci := 7) (q0 := 0) rfl rfl) rfl rfl hl.1 rfl (lv_room (Nat.le_of_ble_eq_true rfl)) dX8_nine_30 ⟨Nat.le_of_ble_eq_true rfl, Nat.le_of_ble_eq_true rfl⟩) ?_
  refine lv_iadd hx hb dX8_nine_33 ?_
  refine lv_istore_n (lv' := [(3, .int (((((0 + (sp_rf (nI rwd) (nI rht) rg dx dy ((x + 0) - 1) ((y + 0) - 1))) + (sp_rf (nI rwd) (nI rht) rg dx dy ((x + 1) - 1) ((y + 0) - 1))) + (sp_rf (nI rwd) (nI rht) rg dx dy ((x + 2) - 1) ((y + 0) - 1))) + (sp_rf (nI rwd) (nI rht) rg dx dy ((x + 0) - 1) ((y + 1) - 1))) + (sp_rf (nI rwd) (nI rht) rg dx dy ((x + 1) - 1) ((y + 1) - 1)))), (4, .int 4), (0, .ref m0), (1, .int x), (2, .int y)]) hx hb dX8_nine_34 rfl hl (by decide) rfl (fun ls hl => ?_)
  refine lv_iinc (v := 5) (lv' := [(4, .int 5), (3, .int (((((0 + (sp_rf (nI rwd) (nI rht) rg dx dy ((x + 0) - 1) ((y + 0) - 1))) + (sp_rf (nI rwd) (nI rht) rg dx dy ((x + 1) - 1) ((y + 0) - 1))) + (sp_rf (nI rwd) (nI rht) rg dx dy ((x + 2) - 1) ((y + 0) - 1))) + (sp_rf (nI rwd) (nI rht) rg dx dy ((x + 0) - 1) ((y + 1) - 1))) + (sp_rf (nI rwd) (nI rht) rg dx dy ((x + 1) - 1) ((y + 1) - 1)))), (0, .ref m0), (1, .int x), (2, .int y)]) hx hb dX8_nine_35 hl (k := 1) rfl (by decide) (by decide) rfl (fun ls hl => ?_)
  refine lv_goto (tgt := 5) hx hb dX8_nine_38 (by decide) ?_
  refine lv_iload hx hb dX8_nine_5 (lv_at hl 0 rfl) ?_
  refine lv_bipush (v := 9) hx hb dX8_nine_7 (by decide) ?_
  refine lv_icmp_ge (tgt := 41) hx hb dX8_nine_9 (by decide) (fun c9 => absurd c9 (by decide)) (fun _ => ?_)
  refine lv_iload_n hx hb dX8_nine_12 rfl (lv_at hl 1 rfl) ?_
  refine lv_aload_n hx hb dX8_nine_13 rfl (lv_at hl 2 rfl) ?_
  refine lv_iload_n hx hb dX8_nine_14 rfl (lv_at hl 3 rfl) ?_
  refine lv_iload hx hb dX8_nine_15 (lv_at hl 0 rfl) ?_
  refine lv_iconst (v := 3) hx hb dX8_nine_17 (by decide) ?_
  refine lv_irem hx hb dX8_nine_18 (by decide) ?_
  refine hw_i (y := 2) (by decide) ?_
  refine lv_iadd hx hb dX8_nine_19 ?_
  refine lv_iconst (v := 1) hx hb dX8_nine_20 (by decide) ?_
  refine lv_isub hx hb dX8_nine_21 ?_
  refine lv_iload_n hx hb dX8_nine_22 rfl (lv_at hl 4 rfl) ?_
  refine lv_iload hx hb dX8_nine_23 (lv_at hl 0 rfl) ?_
  refine lv_iconst (v := 3) hx hb dX8_nine_25 (by decide) ?_
  refine lv_idiv hx hb dX8_nine_26 (by decide) ?_
  refine hw_i (y := 1) (by decide) ?_
  refine lv_iadd hx hb dX8_nine_27 ?_
  refine lv_iconst (v := 1) hx hb dX8_nine_28 (by decide) ?_
  refine lv_isub hx hb dX8_nine_29 ?_
  refine hw_callSe (va_runV (As := [.int ((x + 2) - 1), .int ((y + 1) - 1)]) (rest := [.int (((((0 + (sp_rf (nI rwd) (nI rht) rg dx dy ((x + 0) - 1) ((y + 0) - 1))) + (sp_rf (nI rwd) (nI rht) rg dx dy ((x + 1) - 1) ((y + 0) - 1))) + (sp_rf (nI rwd) (nI rht) rg dx dy ((x + 2) - 1) ((y + 0) - 1))) + (sp_rf (nI rwd) (nI rht) rg dx dy ((x + 0) - 1) ((y + 1) - 1))) + (sp_rf (nI rwd) (nI rht) rg dx dy ((x + 1) - 1) ((y + 1) - 1)))]) ⟨hx, hb, hml, hown, hts⟩ (c_X8_referred l dC dI cI cZ cJ m0 m1 m2 m3 m4 m5 m6 th tp ty sf rdg rt dx dy p0 q0 p1 q1 kp w h rwd rht k sk tr co b ma mc mt rg ((x + 2) - 1) ((y + 1) - 1) (hrw) (hrh) (h01)) (cwV 2 hts gX8_nine_X8_referred rfl rfl rfl (by decide +kernel) ⟨Nat.le_of_ble_eq_true rfl, Nat.le_of_ble_eq_true rfl⟩) (hw_roV hP hS hk [0, 1] rfl (ci := 7) (q0 := 0) rfl rfl) rfl rfl hl.1 rfl (lv_room (Nat.le_of_ble_eq_true rfl)) dX8_nine_30 ⟨Nat.le_of_ble_eq_true rfl, Nat.le_of_ble_eq_true rfl⟩) ?_
  refine lv_iadd hx hb dX8_nine_33 ?_
  refine lv_istore_n (lv' := [(3, .int ((((((0 + (sp_rf (nI rwd) (nI rht) rg dx dy ((x + 0) - 1) ((y + 0) - 1))) + (sp_rf (nI rwd) (nI rht) rg dx dy ((x + 1) - 1) ((y + 0) - 1))) + (sp_rf (nI rwd) (nI rht) rg dx dy ((x + 2) - 1) ((y + 0) - 1))) + (sp_rf (nI rwd) (nI rht) rg dx dy ((x + 0) - 1) ((y + 1) - 1))) + (sp_rf (nI rwd) (nI rht) rg dx dy ((x + 1) - 1) ((y + 1) - 1))) + (sp_rf (nI rwd) (nI rht) rg dx dy ((x + 2) - 1) ((y + 1) - 1)))), (4, .int 5), (0, .ref m0), (1, .int x), (2, .int y)]) hx hb dX8_nine_34 rfl hl (by decide) rfl (fun ls hl => ?_)
  refine lv_iinc (v := 6) (lv' := [(4, .int 6), (3, .int ((((((0 + (sp_rf (nI rwd) (nI rht) rg dx dy ((x + 0) - 1) ((y + 0) - 1))) + (sp_rf (nI rwd) (nI rht) rg dx dy ((x + 1) - 1) ((y + 0) - 1))) + (sp_rf (nI rwd) (nI rht) rg dx dy ((x + 2) - 1) ((y + 0) - 1))) + (sp_rf (nI rwd) (nI rht) rg dx dy ((x + 0) - 1) ((y + 1) - 1))) + (sp_rf (nI rwd) (nI rht) rg dx dy ((x + 1) - 1) ((y + 1) - 1))) + (sp_rf (nI rwd) (nI rht) rg dx dy ((x + 2) - 1) ((y + 1) - 1)))), (0, .ref m0), (1, .int x), (2, .int y)]) hx hb dX8_nine_35 hl (k := 1) rfl (by decide) (by decide) rfl (fun ls hl => ?_)
  refine lv_goto (tgt := 5) hx hb dX8_nine_38 (by decide) ?_
  refine lv_iload hx hb dX8_nine_5 (lv_at hl 0 rfl) ?_
  refine lv_bipush (v := 9) hx hb dX8_nine_7 (by decide) ?_
  refine lv_icmp_ge (tgt := 41) hx hb dX8_nine_9 (by decide) (fun c9 => absurd c9 (by decide)) (fun _ => ?_)
  refine lv_iload_n hx hb dX8_nine_12 rfl (lv_at hl 1 rfl) ?_
  refine lv_aload_n hx hb dX8_nine_13 rfl (lv_at hl 2 rfl) ?_
  refine lv_iload_n hx hb dX8_nine_14 rfl (lv_at hl 3 rfl) ?_
  refine lv_iload hx hb dX8_nine_15 (lv_at hl 0 rfl) ?_
  refine lv_iconst (v := 3) hx hb dX8_nine_17 (by decide) ?_
  refine lv_irem hx hb dX8_nine_18 (by decide) ?_
  refine hw_i (y := 0) (by decide) ?_
  refine lv_iadd hx hb dX8_nine_19 ?_
  refine lv_iconst (v := 1) hx hb dX8_nine_20 (by decide) ?_
  refine lv_isub hx hb dX8_nine_21 ?_
  refine lv_iload_n hx hb dX8_nine_22 rfl (lv_at hl 4 rfl) ?_
  refine lv_iload hx hb dX8_nine_23 (lv_at hl 0 rfl) ?_
  refine lv_iconst (v := 3) hx hb dX8_nine_25 (by decide) ?_
  refine lv_idiv hx hb dX8_nine_26 (by decide) ?_
  refine hw_i (y := 2) (by decide) ?_
  refine lv_iadd hx hb dX8_nine_27 ?_
  refine lv_iconst (v := 1) hx hb dX8_nine_28 (by decide) ?_
  refine lv_isub hx hb dX8_nine_29 ?_
  refine hw_callSe (va_runV (As := [.int ((x + 0) - 1), .int ((y + 2) - 1)]) (rest := [.int ((((((0 + (sp_rf (nI rwd) (nI rht) rg dx dy ((x + 0) - 1) ((y + 0) - 1))) + (sp_rf (nI rwd) (nI rht) rg dx dy ((x + 1) - 1) ((y + 0) - 1))) + (sp_rf (nI rwd) (nI rht) rg dx dy ((x + 2) - 1) ((y + 0) - 1))) + (sp_rf (nI rwd) (nI rht) rg dx dy ((x + 0) - 1) ((y + 1) - 1))) + (sp_rf (nI rwd) (nI rht) rg dx dy ((x + 1) - 1) ((y + 1) - 1))) + (sp_rf (nI rwd) (nI rht) rg dx dy ((x + 2) - 1) ((y + 1) - 1)))]) ⟨hx, hb, hml, hown, hts⟩ (c_X8_referred l dC dI cI cZ cJ m0 m1 m2 m3 m4 m5 m6 th tp ty sf rdg rt dx dy p0 q0 p1 q1 kp w h rwd rht k sk tr co b ma mc mt rg ((x + 0) - 1) ((y + 2) - 1) (hrw) (hrh) (h01)) (cwV 2 hts gX8_nine_X8_referred rfl rfl rfl (by decide +kernel) ⟨Nat.le_of_ble_eq_true rfl, Nat.le_of_ble_eq_true rfl⟩) (hw_roV hP hS hk [0, 1] rfl (ci := 7) (q0 := 0) rfl rfl) rfl rfl hl.1 rfl (lv_room (Nat.le_of_ble_eq_true rfl)) dX8_nine_30 ⟨Nat.le_of_ble_eq_true rfl, Nat.le_of_ble_eq_true rfl⟩) ?_
  refine lv_iadd hx hb dX8_nine_33 ?_
  refine lv_istore_n (lv' := [(3, .int (((((((0 + (sp_rf (nI rwd) (nI rht) rg dx dy ((x + 0) - 1) ((y + 0) - 1))) + (sp_rf (nI rwd) (nI rht) rg dx dy ((x + 1) - 1) ((y + 0) - 1))) + (sp_rf (nI rwd) (nI rht) rg dx dy ((x + 2) - 1) ((y + 0) - 1))) + (sp_rf (nI rwd) (nI rht) rg dx dy ((x + 0) - 1) ((y + 1) - 1))) + (sp_rf (nI rwd) (nI rht) rg dx dy ((x + 1) - 1) ((y + 1) - 1))) + (sp_rf (nI rwd) (nI rht) rg dx dy ((x + 2) - 1) ((y + 1) - 1))) + (sp_rf (nI rwd) (nI rht) rg dx dy ((x + 0) - 1) ((y + 2) - 1)))), (4, .int 6), (0, .ref m0), (1, .int x), (2, .int y)]) hx hb dX8_nine_34 rfl hl (by decide) rfl (fun ls hl => ?_)
  refine lv_iinc (v := 7) (lv' := [(4, .int 7), (3, .int (((((((0 + (sp_rf (nI rwd) (nI rht) rg dx dy ((x + 0) - 1) ((y + 0) - 1))) + (sp_rf (nI rwd) (nI rht) rg dx dy ((x + 1) - 1) ((y + 0) - 1))) + (sp_rf (nI rwd) (nI rht) rg dx dy ((x + 2) - 1) ((y + 0) - 1))) + (sp_rf (nI rwd) (nI rht) rg dx dy ((x + 0) - 1) ((y + 1) - 1))) + (sp_rf (nI rwd) (nI rht) rg dx dy ((x + 1) - 1) ((y + 1) - 1))) + (sp_rf (nI rwd) (nI rht) rg dx dy ((x + 2) - 1) ((y + 1) - 1))) + (sp_rf (nI rwd) (nI rht) rg dx dy ((x + 0) - 1) ((y + 2) - 1)))), (0, .ref m0), (1, .int x), (2, .int y)]) hx hb dX8_nine_35 hl (k := 1) rfl (by decide) (by decide) rfl (fun ls hl => ?_)
  refine lv_goto (tgt := 5) hx hb dX8_nine_38 (by decide) ?_
  refine lv_iload hx hb dX8_nine_5 (lv_at hl 0 rfl) ?_
  refine lv_bipush (v := 9) hx hb dX8_nine_7 (by decide) ?_
  refine lv_icmp_ge (tgt := 41) hx hb dX8_nine_9 (by decide) (fun c9 => absurd c9 (by decide)) (fun _ => ?_)
  refine lv_iload_n hx hb dX8_nine_12 rfl (lv_at hl 1 rfl) ?_
  refine lv_aload_n hx hb dX8_nine_13 rfl (lv_at hl 2 rfl) ?_
  refine lv_iload_n hx hb dX8_nine_14 rfl (lv_at hl 3 rfl) ?_
  refine lv_iload hx hb dX8_nine_15 (lv_at hl 0 rfl) ?_
  refine lv_iconst (v := 3) hx hb dX8_nine_17 (by decide) ?_
  refine lv_irem hx hb dX8_nine_18 (by decide) ?_
  refine hw_i (y := 1) (by decide) ?_
  refine lv_iadd hx hb dX8_nine_19 ?_
  refine lv_iconst (v := 1) hx hb dX8_nine_20 (by decide) ?_
  refine lv_isub hx hb dX8_nine_21 ?_
  refine lv_iload_n hx hb dX8_nine_22 rfl (lv_at hl 4 rfl) ?_
  refine lv_iload hx hb dX8_nine_23 (lv_at hl 0 rfl) ?_
  refine lv_iconst (v := 3) hx hb dX8_nine_25 (by decide) ?_
  refine lv_idiv hx hb dX8_nine_26 (by decide) ?_
  refine hw_i (y := 2) (by decide) ?_
  refine lv_iadd hx hb dX8_nine_27 ?_
  refine lv_iconst (v := 1) hx hb dX8_nine_28 (by decide) ?_
  refine lv_isub hx hb dX8_nine_29 ?_
  refine hw_callSe (va_runV (As := [.int ((x + 1) - 1), .int ((y + 2) - 1)]) (rest := [.int (((((((0 + (sp_rf (nI rwd) (nI rht) rg dx dy ((x + 0) - 1) ((y + 0) - 1))) + (sp_rf (nI rwd) (nI rht) rg dx dy ((x + 1) - 1) ((y + 0) - 1))) + (sp_rf (nI rwd) (nI rht) rg dx dy ((x + 2) - 1) ((y + 0) - 1))) + (sp_rf (nI rwd) (nI rht) rg dx dy ((x + 0) - 1) ((y + 1) - 1))) + (sp_rf (nI rwd) (nI rht) rg dx dy ((x + 1) - 1) ((y + 1) - 1))) + (sp_rf (nI rwd) (nI rht) rg dx dy ((x + 2) - 1) ((y + 1) - 1))) + (sp_rf (nI rwd) (nI rht) rg dx dy ((x + 0) - 1) ((y + 2) - 1)))]) ⟨hx, hb, hml, hown, hts⟩ (c_X8_referred l dC dI cI cZ cJ m0 m1 m2 m3 m4 m5 m6 th tp ty sf rdg rt dx dy p0 q0 p1 q1 kp w h rwd rht k sk tr co b ma mc mt rg ((x + 1) - 1) ((y + 2) - 1) (hrw) (hrh) (h01)) (cwV 2 hts gX8_nine_X8_referred rfl rfl rfl (by decide +kernel) ⟨Nat.le_of_ble_eq_true rfl, Nat.le_of_ble_eq_true rfl⟩) (hw_roV hP hS hk [0, 1] rfl (ci := 7) (q0 := 0) rfl rfl) rfl rfl hl.1 rfl (lv_room (Nat.le_of_ble_eq_true rfl)) dX8_nine_30 ⟨Nat.le_of_ble_eq_true rfl, Nat.le_of_ble_eq_true rfl⟩) ?_
  refine lv_iadd hx hb dX8_nine_33 ?_
  refine lv_istore_n (lv' := [(3, .int ((((((((0 + (sp_rf (nI rwd) (nI rht) rg dx dy ((x + 0) - 1) ((y + 0) - 1))) + (sp_rf (nI rwd) (nI rht) rg dx dy ((x + 1) - 1) ((y + 0) - 1))) + (sp_rf (nI rwd) (nI rht) rg dx dy ((x + 2) - 1) ((y + 0) - 1))) + (sp_rf (nI rwd) (nI rht) rg dx dy ((x + 0) - 1) ((y + 1) - 1))) + (sp_rf (nI rwd) (nI rht) rg dx dy ((x + 1) - 1) ((y + 1) - 1))) + (sp_rf (nI rwd) (nI rht) rg dx dy ((x + 2) - 1) ((y + 1) - 1))) + (sp_rf (nI rwd) (nI rht) rg dx dy ((x + 0) - 1) ((y + 2) - 1))) + (sp_rf (nI rwd) (nI rht) rg dx dy ((x + 1) - 1) ((y + 2) - 1)))), (4, .int 7), (0, .ref m0), (1, .int x), (2, .int y)]) hx hb dX8_nine_34 rfl hl (by decide) rfl (fun ls hl => ?_)
  refine lv_iinc (v := 8) (lv' := [(4, .int 8), (3, .int ((((((((0 + (sp_rf (nI rwd) (nI rht) rg dx dy ((x + 0) - 1) ((y + 0) - 1))) + (sp_rf (nI rwd) (nI rht) rg dx dy ((x + 1) - 1) ((y + 0) - 1))) + (sp_rf (nI rwd) (nI rht) rg dx dy ((x + 2) - 1) ((y + 0) - 1))) + (sp_rf (nI rwd) (nI rht) rg dx dy ((x + 0) - 1) ((y + 1) - 1))) + (sp_rf (nI rwd) (nI rht) rg dx dy ((x + 1) - 1) ((y + 1) - 1))) + (sp_rf (nI rwd) (nI rht) rg dx dy ((x + 2) - 1) ((y + 1) - 1))) + (sp_rf (nI rwd) (nI rht) rg dx dy ((x + 0) - 1) ((y + 2) - 1))) + (sp_rf (nI rwd) (nI rht) rg dx dy ((x + 1) - 1) ((y + 2) - 1)))), (0, .ref m0), (1, .int x), (2, .int y)]) hx hb dX8_nine_35 hl (k := 1) rfl (by decide) (by decide) rfl (fun ls hl => ?_)
  refine lv_goto (tgt := 5) hx hb dX8_nine_38 (by decide) ?_
  refine lv_iload hx hb dX8_nine_5 (lv_at hl 0 rfl) ?_
  refine lv_bipush (v := 9) hx hb dX8_nine_7 (by decide) ?_
  refine lv_icmp_ge (tgt := 41) hx hb dX8_nine_9 (by decide) (fun c9 => absurd c9 (by decide)) (fun _ => ?_)
  refine lv_iload_n hx hb dX8_nine_12 rfl (lv_at hl 1 rfl) ?_
  refine lv_aload_n hx hb dX8_nine_13 rfl (lv_at hl 2 rfl) ?_
  refine lv_iload_n hx hb dX8_nine_14 rfl (lv_at hl 3 rfl) ?_
  refine lv_iload hx hb dX8_nine_15 (lv_at hl 0 rfl) ?_
  refine lv_iconst (v := 3) hx hb dX8_nine_17 (by decide) ?_
  refine lv_irem hx hb dX8_nine_18 (by decide) ?_
  refine hw_i (y := 2) (by decide) ?_
  refine lv_iadd hx hb dX8_nine_19 ?_
  refine lv_iconst (v := 1) hx hb dX8_nine_20 (by decide) ?_
  refine lv_isub hx hb dX8_nine_21 ?_
  refine lv_iload_n hx hb dX8_nine_22 rfl (lv_at hl 4 rfl) ?_
  refine lv_iload hx hb dX8_nine_23 (lv_at hl 0 rfl) ?_
  refine lv_iconst (v := 3) hx hb dX8_nine_25 (by decide) ?_
  refine lv_idiv hx hb dX8_nine_26 (by decide) ?_
  refine hw_i (y := 2) (by decide) ?_
  refine lv_iadd hx hb dX8_nine_27 ?_
  refine lv_iconst (v := 1) hx hb dX8_nine_28 (by decide) ?_
  refine lv_isub hx hb dX8_nine_29 ?_
  refine hw_callSe (va_runV (As := [.int ((x + 2) - 1), .int ((y + 2) - 1)]) (rest := [.int ((((((((0 + (sp_rf (nI rwd) (nI rht) rg dx dy ((x + 0) - 1) ((y + 0) - 1))) + (sp_rf (nI rwd) (nI rht) rg dx dy ((x + 1) - 1) ((y + 0) - 1))) + (sp_rf (nI rwd) (nI rht) rg dx dy ((x + 2) - 1) ((y + 0) - 1))) + (sp_rf (nI rwd) (nI rht) rg dx dy ((x + 0) - 1) ((y + 1) - 1))) + (sp_rf (nI rwd) (nI rht) rg dx dy ((x + 1) - 1) ((y + 1) - 1))) + (sp_rf (nI rwd) (nI rht) rg dx dy ((x + 2) - 1) ((y + 1) - 1))) + (sp_rf (nI rwd) (nI rht) rg dx dy ((x + 0) - 1) ((y + 2) - 1))) + (sp_rf (nI rwd) (nI rht) rg dx dy ((x + 1) - 1) ((y + 2) - 1)))]) ⟨hx, hb, hml, hown, hts⟩ (c_X8_referred l dC dI cI cZ cJ m0 m1 m2 m3 m4 m5 m6 th tp ty sf rdg rt dx dy p0 q0 p1 q1 kp w h rwd rht k sk tr co b ma mc mt rg ((x + 2) - 1) ((y + 2) - 1) (hrw) (hrh) (h01)) (cwV 2 hts gX8_nine_X8_referred rfl rfl rfl (by decide +kernel) ⟨Nat.le_of_ble_eq_true rfl, Nat.le_of_ble_eq_true rfl⟩) (hw_roV hP hS hk [0, 1] rfl (ci := 7) (q0 := 0) rfl rfl) rfl rfl hl.1 rfl (lv_room (Nat.le_of_ble_eq_true rfl)) dX8_nine_30 ⟨Nat.le_of_ble_eq_true rfl, Nat.le_of_ble_eq_true rfl⟩) ?_
  refine lv_iadd hx hb dX8_nine_33 ?_
  refine lv_istore_n (lv' := [(3, .int (((((((((0 + (sp_rf (nI rwd) (nI rht) rg dx dy ((x + 0) - 1) ((y + 0) - 1))) + (sp_rf (nI rwd) (nI rht) rg dx dy ((x + 1) - 1) ((y + 0) - 1))) + (sp_rf (nI rwd) (nI rht) rg dx dy ((x + 2) - 1) ((y + 0) - 1))) + (sp_rf (nI rwd) (nI rht) rg dx dy ((x + 0) - 1) ((y + 1) - 1))) + (sp_rf (nI rwd) (nI rht) rg dx dy ((x + 1) - 1) ((y + 1) - 1))) + (sp_rf (nI rwd) (nI rht) rg dx dy ((x + 2) - 1) ((y + 1) - 1))) + (sp_rf (nI rwd) (nI rht) rg dx dy ((x + 0) - 1) ((y + 2) - 1))) + (sp_rf (nI rwd) (nI rht) rg dx dy ((x + 1) - 1) ((y + 2) - 1))) + (sp_rf (nI rwd) (nI rht) rg dx dy ((x + 2) - 1) ((y + 2) - 1)))), (4, .int 8), (0, .ref m0), (1, .int x), (2, .int y)]) hx hb dX8_nine_34 rfl hl (by decide) rfl (fun ls hl => ?_)
  refine lv_iinc (v := 9) (lv' := [(4, .int 9), (3, .int (((((((((0 + (sp_rf (nI rwd) (nI rht) rg dx dy ((x + 0) - 1) ((y + 0) - 1))) + (sp_rf (nI rwd) (nI rht) rg dx dy ((x + 1) - 1) ((y + 0) - 1))) + (sp_rf (nI rwd) (nI rht) rg dx dy ((x + 2) - 1) ((y + 0) - 1))) + (sp_rf (nI rwd) (nI rht) rg dx dy ((x + 0) - 1) ((y + 1) - 1))) + (sp_rf (nI rwd) (nI rht) rg dx dy ((x + 1) - 1) ((y + 1) - 1))) + (sp_rf (nI rwd) (nI rht) rg dx dy ((x + 2) - 1) ((y + 1) - 1))) + (sp_rf (nI rwd) (nI rht) rg dx dy ((x + 0) - 1) ((y + 2) - 1))) + (sp_rf (nI rwd) (nI rht) rg dx dy ((x + 1) - 1) ((y + 2) - 1))) + (sp_rf (nI rwd) (nI rht) rg dx dy ((x + 2) - 1) ((y + 2) - 1)))), (0, .ref m0), (1, .int x), (2, .int y)]) hx hb dX8_nine_35 hl (k := 1) rfl (by decide) (by decide) rfl (fun ls hl => ?_)
  refine lv_goto (tgt := 5) hx hb dX8_nine_38 (by decide) ?_
  refine lv_iload hx hb dX8_nine_5 (lv_at hl 0 rfl) ?_
  refine lv_bipush (v := 9) hx hb dX8_nine_7 (by decide) ?_
  refine lv_icmp_ge (tgt := 41) hx hb dX8_nine_9 (by decide) (fun _ => ?_) (fun c9 => absurd (by decide) c9)
  refine lv_iload_n hx hb dX8_nine_41 rfl (lv_at hl 1 rfl) ?_
  refine lv_if_ne (tgt := 49) hx hb dX8_nine_42 (by decide) (fun c_42 => ?_) (fun c_42 => ?_)
  · refine lv_iload_n hx hb dX8_nine_49 rfl (lv_at hl 1 rfl) ?_
    refine lv_bipush (v := 9) hx hb dX8_nine_50 (by decide) ?_
    refine lv_icmp_ne (tgt := 59) hx hb dX8_nine_52 (by decide) (fun c_52 => ?_) (fun c_52 => ?_)
    · refine lv_iconst (v := (-1)) hx hb dX8_nine_59 (by decide) ?_
      exact W.iret (v := (-1)) hx hb hr (fun t ht hW => ⟨(-1), rfl, sp_nine_2 (sp_px_02_rf h01) c_42 c_52, ht⟩) hS.2.2 dX8_nine_60
    · refine lv_iconst (v := 1) hx hb dX8_nine_55 (by decide) ?_
      refine lv_goto (tgt := 60) hx hb dX8_nine_56 (by decide) ?_
      exact W.iret (v := 1) hx hb hr (fun t ht hW => ⟨1, rfl, sp_nine_1 (sp_px_02_rf h01) c_52, ht⟩) hS.2.2 dX8_nine_60
  · refine lv_iconst (v := 0) hx hb dX8_nine_45 (by decide) ?_
    refine lv_goto (tgt := 60) hx hb dX8_nine_46 (by decide) ?_
    exact W.iret (v := 0) hx hb hr (fun t ht hW => ⟨0, rfl, sp_nine_0 (sp_px_02_rf h01) c_42, ht⟩) hS.2.2 dX8_nine_60
