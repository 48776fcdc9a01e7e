set_option maxHeartbeats 4000000 in
set_option maxRecDepth 100000 in
/-- Arrays.fill(a, v): every place holds v -/
theorem c_fill (l : Launch) (dC : Nat → ClassId) (dI : Nat → Nat → Nat) (cI cZ cJ : ClassId) (ha : Nat) (N : Nat) (f : Nat → Int32) (v : Int32) (hNN : N < 65536) (sz : Nat) : Met l yJ7_fill_53178 wsJ7_fill_53178 ({ frames := 0, cells := 0, slots := 0, locals := 0 }) (hw_Pre (dC, dI) vwCl (ty3 cI cZ cJ) [(ha, .inl (cI, N, .inl f))] sz [.ref ha, .int v]) (va_Qv (fun _ : Unit => True) (hw_at (dC, dI) vwCl (ty3 cI cZ cJ) (fun _ : Unit => [(ha, .inl (cI, N, .inl (fun _ => v)))]) (va_A [(ha, .inl (cI, N, .inl f))] sz)) (va_A [(ha, .inl (cI, N, .inl f))] sz)) 0 0 (va_A [(ha, .inl (cI, N, .inl f))] sz) := by
  refine Met.ofW (cc := cJ7_fill_53178) (maxL := 4) (ret := none) (by decide) rfl ?_
  intro pg ev s m args below meth cd s₁ B hml hv
  obtain ⟨rfl, hsz, hP, hK, hN, hZ, hD0⟩ := hv
  have hx := B.exec
  have hb := B.bytes
  have hr := B.returns
  have hts := atoms_spec (ws := wsJ7_fill_53178) B.pre
  have hown : s.vm.findClass RJ7 = some m.cls := findClass_of_methodNamed B.named
  have hlocks := B.notSynchronized
  subst hsz
  have hD := hD0.self (sz := s.heap.size)
  generalize hAe : va_A [(ha, .inl (cI, N, .inl f))] s.heap.size = A at hD hZ ⊢
  have hA : ∀ q : Nat, s.heap.size ≤ q → A q := fun q h => by rw [← hAe]; exact Or.inr h
  have hS : va_S A s.heap s.heap [] := va_S.rf
  have hk : hw_K (dC, dI) vwCl (ty3 cI cZ cJ) A s := ⟨hK, hN, hZ⟩
  have hl := lv_entry ([.ref ha, .int v]) (n := 4) (Nat.le_of_ble_eq_true rfl)
  rw [lg_entry_eq]
  generalize (lg_sl ([.ref ha, .int v]) ++ List.replicate (4 - (lg_sl ([.ref ha, .int v])).length) Slot.unset).toArray = ls at hl ⊢
  have hl : lv_has ls 4 [(0, .ref ha), (1, .int v)] := hl
  refine lv_iconst (v := 0) hx hb dJ7_fill_53178_0 (by decide) ?_
  refine lv_istore_n (lv' := [(2, .int 0), (0, .ref ha), (1, .int v)]) hx hb dJ7_fill_53178_1 rfl hl (by decide) rfl (fun ls hl => ?_)
  refine lv_aload_n hx hb dJ7_fill_53178_2 rfl (lv_at hl 1 rfl) ?_
  refine va_alen hx hb hK hP 0 0 rfl rfl (v := nI N) (rfl) dJ7_fill_53178_3 ?_
  refine lv_istore_n (lv' := [(3, .int (nI N)), (2, .int 0), (0, .ref ha), (1, .int v)]) hx hb dJ7_fill_53178_4 rfl hl (by decide) rfl (fun ls hl => ?_)
  have loop_5 : ∀ (fu : Nat) (i : Nat) (g : Nat → Int32), (i ≤ N) → (∀ j, j < i → g j = v) → (N - i < fu) → ∀ (H : Heap) (locs : List Loc), va_P (dC, dI) vwCl [(ha, .inl (cI, N, .inl g))] H → va_D A [(ha, .inl (cI, N, .inl g))] → va_S A s.heap H locs → ∀ ls : Array Slot, lv_has ls 4 [(2, .int (nI i)), (0, .ref ha), (1, .int v), (3, .int (nI N))] → W pg l ev (headSpec wsJ7_fill_53178 ({ frames := 0, cells := 0, slots := 0, locals := 0 })).room s m ([.ref ha, .int v]).toArray below meth cd H locs 0 0 (MQ below (va_Qv (fun _ : Unit => True) (hw_at (dC, dI) vwCl (ty3 cI cZ cJ) (fun _ : Unit => [(ha, .inl (cI, N, .inl (fun _ => v)))]) A) A) ([.ref ha, .int v]).toArray s 0 0 A) (F0 m 5 ls []) := by
    intro fu
    induction fu with
    | zero =>
      intro i g hi hg hn
      omega
    | succ fu ih =>
      intro i g hi hg hn H locs hP hD hS ls hl
      refine lv_iload_n hx hb dJ7_fill_53178_5 rfl (lv_at hl 0 rfl) ?_
      refine lv_iload_n hx hb dJ7_fill_53178_6 rfl (lv_at hl 3 rfl) ?_
      refine lv_icmp_ge (tgt := 20) hx hb dJ7_fill_53178_7 (by decide) (fun c_7 => ?_) (fun c_7 => ?_)
      · have hP9 : va_P (dC, dI) vwCl ((fun _ : Unit => [(ha, .inl (cI, N, .inl (fun _ => v)))]) ()) H := by
          exact hw_arr (p := 0) (g := fun _ => v) rfl (fun j hj => hg j (by rw [nI_leI (by omega) (by omega)] at c_7; omega)) hP
        have hD9 : va_D A ((fun _ : Unit => [(ha, .inl (cI, N, .inl (fun _ => v)))]) ()) := by
          exact hw_arrD (p := 0) (g := fun _ => v) rfl hD
        exact W.vret hx hb hr (fun t ht hW => ⟨⟨(), rfl, trivial, by rw [ht]; exact hP9, va_K.moved hW.alike hK, hD9⟩, hS.F ht⟩) hS.2.2 dJ7_fill_53178_20
      · have hi9 : i < N := by rw [nI_leI (by omega) (by omega)] at c_7; omega
        refine lv_aload_n hx hb dJ7_fill_53178_10 rfl (lv_at hl 1 rfl) ?_
        refine lv_iload_n hx hb dJ7_fill_53178_11 rfl (lv_at hl 0 rfl) ?_
        refine lv_iload_n hx hb dJ7_fill_53178_12 rfl (lv_at hl 2 rfl) ?_
        refine va_iast hx hb hK hP hD hS 0 0 rfl rfl (vp_in_nI (by rw [nI_leI (by omega) (by omega)] at c_7; omega) (by omega)) dJ7_fill_53178_13 (fun H locs hP hD hS => ?_)
        have hP : va_P (dC, dI) vwCl [(ha, .inl (cI, N, .inl (upd g (nI i).toNatClampNeg v)))] H := hP
        have hD : va_D A [(ha, .inl (cI, N, .inl (upd g (nI i).toNatClampNeg v)))] := hD
        refine lv_iinc (v := nI (i + 1)) (lv' := [(2, .int (nI (i + 1))), (0, .ref ha), (1, .int v), (3, .int (nI N))]) hx hb dJ7_fill_53178_14 hl (k := 0) rfl (nI_1 i) (by decide) rfl (fun ls hl => ?_)
        refine lv_goto (tgt := 5) hx hb dJ7_fill_53178_17 (by decide) ?_
        exact ih (i + 1) (upd g (nI i).toNatClampNeg v) (by omega) (sp_fill hg (by omega)) (by omega) _ _ hP hD hS ls (lv_sub hl [0, 1, 2, 3] rfl)
  exact loop_5 (N + 1) 0 f (Nat.zero_le _) (fun j h => absurd h (Nat.not_lt_zero j)) (by omega) _ _ hP hD hS ls (lv_sub hl [1, 2, 3, 0] rfl)

set_option maxHeartbeats 4000000 in
set_option maxRecDepth 100000 in
/-- holds(x, y): is it a place of the bitmap? -/
theorem c_X1_holds (l : Launch) (dC : Nat → ClassId) (dI : Nat → Nat → Nat) (cI cZ cJ : ClassId) (h0 : Nat) (ha : Nat) (n : Nat) (w : Nat) (h : Nat) (f : Nat → Int32) (x : Int32) (y : Int32) : Met l yX1_holds wsX1_holds ({ frames := 0, cells := 0, slots := 0, locals := 0 }) (hw_Ro (dC, dI) vwCl (ty3 cI cZ cJ) [(h0, .inr (0, [.int (nI n), .ref ha, .int (nI w), .int (nI h)])), (ha, .inl (cI, n * n, .inl f))] [.ref h0, .int x, .int y]) (vp_Si (fun r => r = sp_ho (nI w) (nI h) x y)) 0 0 (fun _ => False) := by
  refine Met.ofW (cc := cX1_holds) (maxL := 3) (ret := (some .boolean)) (by decide) rfl ?_
  intro pg ev s m args below meth cd s₁ B hml hv
  obtain ⟨rfl, hP, hK, hN, hZ⟩ := hv
  have hx := B.exec
  have hb := B.bytes
  have hr := B.returns
  have hts := atoms_spec (ws := wsX1_holds) B.pre
  have hown : s.vm.findClass RX1 = some m.cls := findClass_of_methodNamed B.named
  have hlocks := B.notSynchronized
  have hS : va_S (fun _ => False) s.heap s.heap [] := va_S.rf
  have hk : hw_K (dC, dI) vwCl (ty3 cI cZ cJ) (fun _ => False) s := ⟨hK, hN, hZ⟩
  have hiX1 : ∀ w ∈ u_ws RX1 TX1 4, w ∈ wsX1_holds := by decide +kernel
  have hl := lv_entry ([.ref h0, .int x, .int y]) (n := 3) (Nat.le_of_ble_eq_true rfl)
  rw [lg_entry_eq]
  generalize (lg_sl ([.ref h0, .int x, .int y]) ++ List.replicate (3 - (lg_sl ([.ref h0, .int x, .int y])).length) Slot.unset).toArray = ls at hl ⊢
  have hl : lv_has ls 3 [(0, .ref h0), (1, .int x), (2, .int y)] := hl
  refine lv_iload_n hx hb dX1_holds_0 rfl (lv_at hl 1 rfl) ?_
  refine lv_if_lt (tgt := 28) hx hb dX1_holds_1 (by decide) (fun c_1 => ?_) (fun c_1 => ?_)
  · refine lv_iconst (v := 0) hx hb dX1_holds_28 (by decide) ?_
    exact W.zret (v := 0) hx hb hr (by decide +kernel) (fun t ht hW => ⟨0, rfl, (sp_ho_out (by first | exact Or.inl c_1 | exact Or.inr (Or.inl c_9) | exact Or.inr (Or.inr (Or.inl c_13)) | exact Or.inr (Or.inr (Or.inr c_21)))).symm, ht⟩) hS.2.2 dX1_holds_29
  · refine lv_iload_n hx hb dX1_holds_4 rfl (lv_at hl 1 rfl) ?_
    refine lv_aload_n hx hb dX1_holds_5 rfl (lv_at hl 0 rfl) ?_
    refine va_get (D := (dC, dI)) (ci := 0) (v := .int (nI w)) (C := RX1) (T := TX1) (N := 4) hx hb hts hiX1 hown hK hP 0 rfl rfl 2 (by decide) (hts (.fieldLink RX1 7 "RefineRegions$Bitmap" "width" "I") (by decide +kernel)) (fun _ h9 => h9) rfl dX1_holds_6 ?_
    refine lv_icmp_ge (tgt := 28) hx hb dX1_holds_9 (by decide) (fun c_9 => ?_) (fun c_9 => ?_)
    · refine lv_iconst (v := 0) hx hb dX1_holds_28 (by decide) ?_
      exact W.zret (v := 0) hx hb hr (by decide +kernel) (fun t ht hW => ⟨0, rfl, (sp_ho_out (by first | exact Or.inl c_1 | exact Or.inr (Or.inl c_9) | exact Or.inr (Or.inr (Or.inl c_13)) | exact Or.inr (Or.inr (Or.inr c_21)))).symm, ht⟩) hS.2.2 dX1_holds_29
    · refine lv_iload_n hx hb dX1_holds_12 rfl (lv_at hl 2 rfl) ?_
      refine lv_if_lt (tgt := 28) hx hb dX1_holds_13 (by decide) (fun c_13 => ?_) (fun c_13 => ?_)
      · refine lv_iconst (v := 0) hx hb dX1_holds_28 (by decide) ?_
        exact W.zret (v := 0) hx hb hr (by decide +kernel) (fun t ht hW => ⟨0, rfl, (sp_ho_out (by first | exact Or.inl c_1 | exact Or.inr (Or.inl c_9) | exact Or.inr (Or.inr (Or.inl c_13)) | exact Or.inr (Or.inr (Or.inr c_21)))).symm, ht⟩) hS.2.2 dX1_holds_29
      · refine lv_iload_n hx hb dX1_holds_16 rfl (lv_at hl 2 rfl) ?_
        refine lv_aload_n hx hb dX1_holds_17 rfl (lv_at hl 0 rfl) ?_
        refine va_get (D := (dC, dI)) (ci := 0) (v := .int (nI h)) (C := RX1) (T := TX1) (N := 4) hx hb hts hiX1 hown hK hP 0 rfl rfl 3 (by decide) (hts (.fieldLink RX1 13 "RefineRegions$Bitmap" "height" "I") (by decide +kernel)) (fun _ h9 => h9) rfl dX1_holds_18 ?_
        refine lv_icmp_ge (tgt := 28) hx hb dX1_holds_21 (by decide) (fun c_21 => ?_) (fun c_21 => ?_)
        · refine lv_iconst (v := 0) hx hb dX1_holds_28 (by decide) ?_
          exact W.zret (v := 0) hx hb hr (by decide +kernel) (fun t ht hW => ⟨0, rfl, (sp_ho_out (by first | exact Or.inl c_1 | exact Or.inr (Or.inl c_9) | exact Or.inr (Or.inr (Or.inl c_13)) | exact Or.inr (Or.inr (Or.inr c_21)))).symm, ht⟩) hS.2.2 dX1_holds_29
        · refine lv_iconst (v := 1) hx hb dX1_holds_24 (by decide) ?_
          refine lv_goto (tgt := 29) hx hb dX1_holds_25 (by decide) ?_
          exact W.zret (v := 1) hx hb hr (by decide +kernel) (fun t ht hW => ⟨1, rfl, (sp_ho_in c_1 c_9 c_13 c_21).symm, ht⟩) hS.2.2 dX1_holds_29

set_option maxHeartbeats 4000000 in
set_option maxRecDepth 100000 in
/-- pixel(x, y): outside it is white -/
theorem c_X1_pixel (l : Launch) (dC : Nat → ClassId) (dI : Nat → Nat → Nat) (cI cZ cJ : ClassId) (h0 : Nat) (ha : Nat) (n : Nat) (w : Nat) (h : Nat) (f : Nat → Int32) (x : Int32) (y : Int32) (hn : n ≤ 60) (hw : w ≤ n) (hh : h ≤ n) : Met l yX1_pixel wsX1_pixel ({ frames := 0, cells := 0, slots := 0, locals := 0 }) (hw_Ro (dC, dI) vwCl (ty3 cI cZ cJ) [(h0, .inr (0, [.int (nI n), .ref ha, .int (nI w), .int (nI h)])), (ha, .inl (cI, n * n, .inl f))] [.ref h0, .int x, .int y]) (vp_Si (fun r => r = sp_px (nI n) (nI w) (nI h) f x y)) 0 0 (fun _ => False) := by
  refine Met.ofW (cc := cX1_pixel) (maxL := 3) (ret := (some .int)) (by decide) rfl ?_
  intro pg ev s m args below meth cd s₁ B hml hv
  obtain ⟨rfl, hP, hK, hN, hZ⟩ := hv
  have hx := B.exec
  have hb := B.bytes
  have hr := B.returns
  have hts := atoms_spec (ws := wsX1_pixel) B.pre
  have hown : s.vm.findClass RX1 = some m.cls := findClass_of_methodNamed B.named
  have hlocks := B.notSynchronized
  have hS : va_S (fun _ => False) s.heap s.heap [] := va_S.rf
  have hk : hw_K (dC, dI) vwCl (ty3 cI cZ cJ) (fun _ => False) s := ⟨hK, hN, hZ⟩
  have hiX1 : ∀ w ∈ u_ws RX1 TX1 4, w ∈ wsX1_pixel := by decide +kernel
  have hl := lv_entry ([.ref h0, .int x, .int y]) (n := 3) (Nat.le_of_ble_eq_true rfl)
  rw [lg_entry_eq]
  generalize (lg_sl ([.ref h0, .int x, .int y]) ++ List.replicate (3 - (lg_sl ([.ref h0, .int x, .int y])).length) Slot.unset).toArray = ls at hl ⊢
  have hl : lv_has ls 3 [(0, .ref h0), (1, .int x), (2, .int y)] := hl
  refine lv_iload_n hx hb dX1_pixel_0 rfl (lv_at hl 1 rfl) ?_
  refine lv_if_lt (tgt := 40) hx hb dX1_pixel_1 (by decide) (fun c_1 => ?_) (fun c_1 => ?_)
  · refine lv_iconst (v := 0) hx hb dX1_pixel_40 (by decide) ?_
    exact W.iret (v := 0) hx hb hr (fun t ht hW => ⟨0, rfl, (sp_px_out (by first | exact Or.inl c_1 | exact Or.inr (Or.inl c_9) | exact Or.inr (Or.inr (Or.inl c_13)) | exact Or.inr (Or.inr (Or.inr c_21)))).symm, ht⟩) hS.2.2 dX1_pixel_41
  · refine lv_iload_n hx hb dX1_pixel_4 rfl (lv_at hl 1 rfl) ?_
    refine lv_aload_n hx hb dX1_pixel_5 rfl (lv_at hl 0 rfl) ?_
    refine va_get (D := (dC, dI)) (ci := 0) (v := .int (nI w)) (C := RX1) (T := TX1) (N := 4) hx hb hts hiX1 hown hK hP 0 rfl rfl 2 (by decide) (hts (.fieldLink RX1 7 "RefineRegions$Bitmap" "width" "I") (by decide +kernel)) (fun _ h9 => h9) rfl dX1_pixel_6 ?_
    refine lv_icmp_ge (tgt := 40) hx hb dX1_pixel_9 (by decide) (fun c_9 => ?_) (fun c_9 => ?_)
    · refine lv_iconst (v := 0) hx hb dX1_pixel_40 (by decide) ?_
      exact W.iret (v := 0) hx hb hr (fun t ht hW => ⟨0, rfl, (sp_px_out (by first | exact Or.inl c_1 | exact Or.inr (Or.inl c_9) | exact Or.inr (Or.inr (Or.inl c_13)) | exact Or.inr (Or.inr (Or.inr c_21)))).symm, ht⟩) hS.2.2 dX1_pixel_41
    · refine lv_iload_n hx hb dX1_pixel_12 rfl (lv_at hl 2 rfl) ?_
      refine lv_if_lt (tgt := 40) hx hb dX1_pixel_13 (by decide) (fun c_13 => ?_) (fun c_13 => ?_)
      · refine lv_iconst (v := 0) hx hb dX1_pixel_40 (by decide) ?_
        exact W.iret (v := 0) hx hb hr (fun t ht hW => ⟨0, rfl, (sp_px_out (by first | exact Or.inl c_1 | exact Or.inr (Or.inl c_9) | exact Or.inr (Or.inr (Or.inl c_13)) | exact Or.inr (Or.inr (Or.inr c_21)))).symm, ht⟩) hS.2.2 dX1_pixel_41
      · refine lv_iload_n hx hb dX1_pixel_16 rfl (lv_at hl 2 rfl) ?_
        refine lv_aload_n hx hb dX1_pixel_17 rfl (lv_at hl 0 rfl) ?_
        refine va_get (D := (dC, dI)) (ci := 0) (v := .int (nI h)) (C := RX1) (T := TX1) (N := 4) hx hb hts hiX1 hown hK hP 0 rfl rfl 3 (by decide) (hts (.fieldLink RX1 13 "RefineRegions$Bitmap" "height" "I") (by decide +kernel)) (fun _ h9 => h9) rfl dX1_pixel_18 ?_
        refine lv_icmp_ge (tgt := 40) hx hb dX1_pixel_21 (by decide) (fun c_21 => ?_) (fun c_21 => ?_)
        · refine lv_iconst (v := 0) hx hb dX1_pixel_40 (by decide) ?_
          exact W.iret (v := 0) hx hb hr (fun t ht hW => ⟨0, rfl, (sp_px_out (by first | exact Or.inl c_1 | exact Or.inr (Or.inl c_9) | exact Or.inr (Or.inr (Or.inl c_13)) | exact Or.inr (Or.inr (Or.inr c_21)))).symm, ht⟩) hS.2.2 dX1_pixel_41
        · refine lv_aload_n hx hb dX1_pixel_24 rfl (lv_at hl 0 rfl) ?_
          refine va_get (D := (dC, dI)) (ci := 0) (v := .ref ha) (C := RX1) (T := TX1) (N := 4) hx hb hts hiX1 hown hK hP 0 rfl rfl 1 (by decide) (hts (.fieldLink RX1 19 "RefineRegions$Bitmap" "cells" "[I") (by decide +kernel)) (fun _ h9 => h9) rfl dX1_pixel_25 ?_
          refine lv_iload_n hx hb dX1_pixel_28 rfl (lv_at hl 2 rfl) ?_
          refine lv_aload_n hx hb dX1_pixel_29 rfl (lv_at hl 0 rfl) ?_
          refine va_get (D := (dC, dI)) (ci := 0) (v := .int (nI n)) (C := RX1) (T := TX1) (N := 4) hx hb hts hiX1 hown hK hP 0 rfl rfl 0 (by decide) (hts (.fieldLink RX1 16 "RefineRegions$Bitmap" "side" "I") (by decide +kernel)) (fun _ h9 => h9) rfl dX1_pixel_30 ?_
          refine lv_imul hx hb dX1_pixel_33 ?_
          refine lv_iload_n hx hb dX1_pixel_34 rfl (lv_at hl 1 rfl) ?_
          refine lv_iadd hx hb dX1_pixel_35 ?_
          refine va_iald hx hb hK hP 1 0 rfl rfl (sp_ixin hn hw hh c_1 c_9 c_13 c_21) dX1_pixel_36 ?_
          refine lv_goto (tgt := 41) hx hb dX1_pixel_37 (by decide) ?_
          exact W.iret (v := f ((y * (nI n)) + x).toNatClampNeg) hx hb hr (fun t ht hW => ⟨f ((y * (nI n)) + x).toNatClampNeg, rfl, (sp_px_in c_1 c_9 c_13 c_21).symm, ht⟩) hS.2.2 dX1_pixel_41

set_option maxHeartbeats 4000000 in
set_option maxRecDepth 100000 in
/-- paint(x, y, b): nothing where there is no such place -/
theorem c_X1_paint (l : Launch) (dC : Nat → ClassId) (dI : Nat → Nat → Nat) (cI cZ cJ : ClassId) (h0 : Nat) (ha : Nat) (n : Nat) (w : Nat) (h : Nat) (f : Nat → Int32) (x : Int32) (y : Int32) (b : Int32) (hn : n ≤ 60) (hw : w ≤ n) (hh : h ≤ n) (sz : Nat) : Met l yX1_paint wsX1_paint ({ frames := 1, cells := 0, slots := 0, locals := 22 }) (hw_Pre (dC, dI) vwCl (ty3 cI cZ cJ) [(h0, .inr (0, [.int (nI n), .ref ha, .int (nI w), .int (nI h)])), (ha, .inl (cI, n * n, .inl f))] sz [.ref h0, .int x, .int y, .int b]) (va_Qv (fun _ : Unit => True) (hw_at (dC, dI) vwCl (ty3 cI cZ cJ) (fun _ : Unit => [(h0, .inr (0, [.int (nI n), .ref ha, .int (nI w), .int (nI h)])), (ha, .inl (cI, n * n, .inl (sp_pt (nI n) (nI w) (nI h) f x y b)))]) (va_A [(h0, .inr (0, [.int (nI n), .ref ha, .int (nI w), .int (nI h)])), (ha, .inl (cI, n * n, .inl f))] sz)) (va_A [(h0, .inr (0, [.int (nI n), .ref ha, .int (nI w), .int (nI h)])), (ha, .inl (cI, n * n, .inl f))] sz)) 0 0 (va_A [(h0, .inr (0, [.int (nI n), .ref ha, .int (nI w), .int (nI h)])), (ha, .inl (cI, n * n, .inl f))] sz) := by
  refine Met.ofW (cc := cX1_paint) (maxL := 4) (ret := none) (by decide) rfl ?_
  intro pg ev s m args below meth cd s₁ B hml hv
  obtain ⟨rfl, hsz, hP, hK, hN, hZ, hD0⟩ := hv
  have hx := B.exec
  have hb := B.bytes
  have hr := B.returns
  have hts := atoms_spec (ws := wsX1_paint) B.pre
  have hown : s.vm.findClass RX1 = some m.cls := findClass_of_methodNamed B.named
  have hlocks := B.notSynchronized
  subst hsz
  have hD := hD0.self (sz := s.heap.size)
  generalize hAe : va_A [(h0, .inr (0, [.int (nI n), .ref ha, .int (nI w), .int (nI h)])), (ha, .inl (cI, n * n, .inl f))] s.heap.size = A at hD hZ ⊢
  have hA : ∀ q : Nat, s.heap.size ≤ q → A q := fun q h => by rw [← hAe]; exact Or.inr h
  have hS : va_S A s.heap s.heap [] := va_S.rf
  have hk : hw_K (dC, dI) vwCl (ty3 cI cZ cJ) A s := ⟨hK, hN, hZ⟩
  have hiX1 : ∀ w ∈ u_ws RX1 TX1 4, w ∈ wsX1_paint := by decide +kernel
  have hl := lv_entry ([.ref h0, .int x, .int y, .int b]) (n := 4) (Nat.le_of_ble_eq_true rfl)
  rw [lg_entry_eq]
  generalize (lg_sl ([.ref h0, .int x, .int y, .int b]) ++ List.replicate (4 - (lg_sl ([.ref h0, .int x, .int y, .int b])).length) Slot.unset).toArray = ls at hl ⊢
  have hl : lv_has ls 4 [(0, .ref h0), (1, .int x), (2, .int y), (3, .int b)] := hl
  refine lv_aload_n hx hb dX1_paint_0 rfl (lv_at hl 0 rfl) ?_
  refine lv_iload_n hx hb dX1_paint_1 rfl (lv_at hl 1 rfl) ?_
  refine lv_iload_n hx hb dX1_paint_2 rfl (lv_at hl 2 rfl) ?_
  refine hw_callSe (va_runV (As := [.int x, .int y]) (rest := []) ⟨hx, hb, hml, hown, hts⟩ (c_X1_holds l dC dI cI cZ cJ h0 ha n w h f x y) (cwV 2 hts gX1_paint_X1_holds rfl rfl rfl (by decide +kernel) ⟨Nat.le_of_ble_eq_true rfl, Nat.le_of_ble_eq_true rfl⟩) (hw_roV hP hS hk [0, 1] rfl (ci := 0) (q0 := 0) rfl rfl) rfl rfl hl.1 rfl (lv_room (Nat.le_of_ble_eq_true rfl)) dX1_paint_3 ⟨Nat.le_of_ble_eq_true rfl, Nat.le_of_ble_eq_true rfl⟩) ?_
  refine lv_if_eq (tgt := 23) hx hb dX1_paint_6 (by decide) (fun c_6 => ?_) (fun c_6 => ?_)
  · have hP9 : va_P (dC, dI) vwCl ((fun _ : Unit => [(h0, .inr (0, [.int (nI n), .ref ha, .int (nI w), .int (nI h)])), (ha, .inl (cI, n * n, .inl (sp_pt (nI n) (nI w) (nI h) f x y b)))]) ()) s.heap := by
      rw [sp_pt_out c_6]
      exact hP
    have hD9 : va_D A ((fun _ : Unit => [(h0, .inr (0, [.int (nI n), .ref ha, .int (nI w), .int (nI h)])), (ha, .inl (cI, n * n, .inl (sp_pt (nI n) (nI w) (nI h) f x y b)))]) ()) := by
      rw [sp_pt_out c_6]
      exact hD
    exact W.vret hx hb hr (fun t ht hW => ⟨⟨(), rfl, trivial, by rw [ht]; exact hP9, va_K.moved hW.alike hK, hD9⟩, hS.F ht⟩) hS.2.2 dX1_paint_23
  · refine lv_aload_n hx hb dX1_paint_9 rfl (lv_at hl 0 rfl) ?_
    refine va_get (D := (dC, dI)) (ci := 0) (v := .ref ha) (C := RX1) (T := TX1) (N := 4) hx hb hts hiX1 hown hK hP 0 rfl rfl 1 (by decide) (hts (.fieldLink RX1 19 "RefineRegions$Bitmap" "cells" "[I") (by decide +kernel)) (fun _ h9 => h9) rfl dX1_paint_10 ?_
    refine lv_iload_n hx hb dX1_paint_13 rfl (lv_at hl 2 rfl) ?_
    refine lv_aload_n hx hb dX1_paint_14 rfl (lv_at hl 0 rfl) ?_
    refine va_get (D := (dC, dI)) (ci := 0) (v := .int (nI n)) (C := RX1) (T := TX1) (N := 4) hx hb hts hiX1 hown hK hP 0 rfl rfl 0 (by decide) (hts (.fieldLink RX1 16 "RefineRegions$Bitmap" "side" "I") (by decide +kernel)) (fun _ h9 => h9) rfl dX1_paint_15 ?_
    refine lv_imul hx hb dX1_paint_18 ?_
    refine lv_iload_n hx hb dX1_paint_19 rfl (lv_at hl 1 rfl) ?_
    refine lv_iadd hx hb dX1_paint_20 ?_
    refine lv_iload_n hx hb dX1_paint_21 rfl (lv_at hl 3 rfl) ?_
    refine va_iast hx hb hK hP hD hS 1 0 rfl rfl (sp_ho_ix hn hw hh c_6) dX1_paint_22 (fun H locs hP hD hS => ?_)
    have hP : va_P (dC, dI) vwCl [(h0, .inr (0, [.int (nI n), .ref ha, .int (nI w), .int (nI h)])), (ha, .inl (cI, n * n, .inl (upd f ((y * (nI n)) + x).toNatClampNeg b)))] H := hP
    have hD : va_D A [(h0, .inr (0, [.int (nI n), .ref ha, .int (nI w), .int (nI h)])), (ha, .inl (cI, n * n, .inl (upd f ((y * (nI n)) + x).toNatClampNeg b)))] := hD
    have hP9 : va_P (dC, dI) vwCl ((fun _ : Unit => [(h0, .inr (0, [.int (nI n), .ref ha, .int (nI w), .int (nI h)])), (ha, .inl (cI, n * n, .inl (sp_pt (nI n) (nI w) (nI h) f x y b)))]) ()) H := by
      rw [sp_pt_in c_6]
      exact hP
    have hD9 : va_D A ((fun _ : Unit => [(h0, .inr (0, [.int (nI n), .ref ha, .int (nI w), .int (nI h)])), (ha, .inl (cI, n * n, .inl (sp_pt (nI n) (nI w) (nI h) f x y b)))]) ()) := by
      rw [sp_pt_in c_6]
      exact hD
    exact W.vret hx hb hr (fun t ht hW => ⟨⟨(), rfl, trivial, by rw [ht]; exact hP9, va_K.moved hW.alike hK, hD9⟩, hS.F ht⟩) hS.2.2 dX1_paint_23

set_option maxHeartbeats 4000000 in
set_option maxRecDepth 100000 in
/-- whiten(w, h): the size, and all white -/
theorem c_X1_whiten (l : Launch) (dC : Nat → ClassId) (dI : Nat → Nat → Nat) (cI cZ cJ : ClassId) (h0 : Nat) (ha : Nat) (n : Nat) (w : Nat) (h : Nat) (f : Nat → Int32) (w2 : Nat) (h2 : Nat) (hn : n ≤ 60) (hw : w2 ≤ n) (hh : h2 ≤ n) (sz : Nat) : Met l yX1_whiten wsX1_whiten ({ frames := 1, cells := 0, slots := 0, locals := 23 }) (hw_Pre (dC, dI) vwCl (ty3 cI cZ cJ) [(h0, .inr (0, [.int (nI n), .ref ha, .int (nI w), .int (nI h)])), (ha, .inl (cI, n * n, .inl f))] sz [.ref h0, .int (nI w2), .int (nI h2)]) (va_Qv (fun _ : Unit => True) (hw_at (dC, dI) vwCl (ty3 cI cZ cJ) (fun _ : Unit => [(h0, .inr (0, [.int (nI n), .ref ha, .int (nI w2), .int (nI h2)])), (ha, .inl (cI, n * n, .inl (fun _ => 0)))]) (va_A [(h0, .inr (0, [.int (nI n), .ref ha, .int (nI w), .int (nI h)])), (ha, .inl (cI, n * n, .inl f))] sz)) (va_A [(h0, .inr (0, [.int (nI n), .ref ha, .int (nI w), .int (nI h)])), (ha, .inl (cI, n * n, .inl f))] sz)) 0 0 (va_A [(h0, .inr (0, [.int (nI n), .ref ha, .int (nI w), .int (nI h)])), (ha, .inl (cI, n * n, .inl f))] sz) := by
  refine Met.ofW (cc := cX1_whiten) (maxL := 3) (ret := none) (by decide) rfl ?_
  intro pg ev s m args below meth cd s₁ B hml hv
  obtain ⟨rfl, hsz, hP, hK, hN, hZ, hD0⟩ := hv
  have hx := B.exec
  have hb := B.bytes
  have hr := B.returns
  have hts := atoms_spec (ws := wsX1_whiten) B.pre
  have hown : s.vm.findClass RX1 = some m.cls := findClass_of_methodNamed B.named
  have hlocks := B.notSynchronized
  subst hsz
  have hD := hD0.self (sz := s.heap.size)
  generalize hAe : va_A [(h0, .inr (0, [.int (nI n), .ref ha, .int (nI w), .int (nI h)])), (ha, .inl (cI, n * n, .inl f))] s.heap.size = A at hD hZ ⊢
  have hA : ∀ q : Nat, s.heap.size ≤ q → A q := fun q h => by rw [← hAe]; exact Or.inr h
  have hS : va_S A s.heap s.heap [] := va_S.rf
  have hk : hw_K (dC, dI) vwCl (ty3 cI cZ cJ) A s := ⟨hK, hN, hZ⟩
  have hiX1 : ∀ w ∈ u_ws RX1 TX1 4, w ∈ wsX1_whiten := by decide +kernel
  have hl := lv_entry ([.ref h0, .int (nI w2), .int (nI h2)]) (n := 3) (Nat.le_of_ble_eq_true rfl)
  rw [lg_entry_eq]
  generalize (lg_sl ([.ref h0, .int (nI w2), .int (nI h2)]) ++ List.replicate (3 - (lg_sl ([.ref h0, .int (nI w2), .int (nI h2)])).length) Slot.unset).toArray = ls at hl ⊢
  have hl : lv_has ls 3 [(0, .ref h0), (1, .int (nI w2)), (2, .int (nI h2))] := hl
  refine lv_aload_n hx hb dX1_whiten_0 rfl (lv_at hl 0 rfl) ?_
  refine lv_iload_n hx hb dX1_whiten_1 rfl (lv_at hl 1 rfl) ?_
  refine lv_aload_n hx hb dX1_whiten_2 rfl (lv_at hl 0 rfl) ?_
  refine va_get (D := (dC, dI)) (ci := 0) (v := .int (nI n)) (C := RX1) (T := TX1) (N := 4) hx hb hts hiX1 hown hK hP 0 rfl rfl 0 (by decide) (hts (.fieldLink RX1 16 "RefineRegions$Bitmap" "side" "I") (by decide +kernel)) (fun _ h9 => h9) rfl dX1_whiten_3 ?_
  refine va_mmin hx hb (by rw [hml]; exact hl.1.symm) hown (hts (.methodLink RX1 23 Lib.Math.min.name) (by decide +kernel)) (hts (.static Lib.Math.min.name) (by decide +kernel)) (hts (.initialized "java/lang/Math") (by decide +kernel)) (hts (.code Lib.Math.min.name Lib.Math.min.code 2 (some .int)) (by decide +kernel)) (Nat.le_of_ble_eq_true rfl) (Nat.le_of_ble_eq_true rfl) (Nat.zero_le _) (Nat.zero_le _) dX1_whiten_6 ?_
  refine hw_i (y := nI w2) (if_neg (by rw [nI_ltI (by omega) (by omega)]; omega)) ?_
  refine va_put (D := (dC, dI)) (ci := 0) (v := .int (nI w2)) (ty := .int) (C := RX1) (T := TX1) (N := 4) hx hb hts hiX1 tyX1 tyX1_ok nmX1 hown hK hP hD hS 0 rfl rfl 2 (by decide) (hts (.fieldLink RX1 7 "RefineRegions$Bitmap" "width" "I") (by decide +kernel)) (fun _ h9 => h9) rfl (by decide +kernel) rfl rfl (Nat.le_of_ble_eq_true rfl) dX1_whiten_9 (fun H locs hP hD hS => ?_)
  have hP : va_P (dC, dI) vwCl [(h0, .inr (0, [.int (nI n), .ref ha, .int (nI w2), .int (nI h)])), (ha, .inl (cI, n * n, .inl f))] H := hP
  have hD : va_D A [(h0, .inr (0, [.int (nI n), .ref ha, .int (nI w2), .int (nI h)])), (ha, .inl (cI, n * n, .inl f))] := hD
  refine lv_aload_n hx hb dX1_whiten_12 rfl (lv_at hl 0 rfl) ?_
  refine lv_iload_n hx hb dX1_whiten_13 rfl (lv_at hl 2 rfl) ?_
  refine lv_aload_n hx hb dX1_whiten_14 rfl (lv_at hl 0 rfl) ?_
  refine va_get (D := (dC, dI)) (ci := 0) (v := .int (nI n)) (C := RX1) (T := TX1) (N := 4) hx hb hts hiX1 hown hK hP 0 rfl rfl 0 (by decide) (hts (.fieldLink RX1 16 "RefineRegions$Bitmap" "side" "I") (by decide +kernel)) (fun _ h9 => h9) rfl dX1_whiten_15 ?_
  refine va_mmin hx hb (by rw [hml]; exact hl.1.symm) hown (hts (.methodLink RX1 23 Lib.Math.min.name) (by decide +kernel)) (hts (.static Lib.Math.min.name) (by decide +kernel)) (hts (.initialized "java/lang/Math") (by decide +kernel)) (hts (.code Lib.Math.min.name Lib.Math.min.code 2 (some .int)) (by decide +kernel)) (Nat.le_of_ble_eq_true rfl) (Nat.le_of_ble_eq_true rfl) (Nat.zero_le _) (Nat.zero_le _) dX1_whiten_18 ?_
  refine hw_i (y := nI h2) (if_neg (by rw [nI_ltI (by omega) (by omega)]; omega)) ?_
  refine va_put (D := (dC, dI)) (ci := 0) (v := .int (nI h2)) (ty := .int) (C := RX1) (T := TX1) (N := 4) hx hb hts hiX1 tyX1 tyX1_ok nmX1 hown hK hP hD hS 0 rfl rfl 3 (by decide) (hts (.fieldLink RX1 13 "RefineRegions$Bitmap" "height" "I") (by decide +kernel)) (fun _ h9 => h9) rfl (by decide +kernel) rfl rfl (Nat.le_of_ble_eq_true rfl) dX1_whiten_21 (fun H locs hP hD hS => ?_)
  have hP : va_P (dC, dI) vwCl [(h0, .inr (0, [.int (nI n), .ref ha, .int (nI w2), .int (nI h2)])), (ha, .inl (cI, n * n, .inl f))] H := hP
  have hD : va_D A [(h0, .inr (0, [.int (nI n), .ref ha, .int (nI w2), .int (nI h2)])), (ha, .inl (cI, n * n, .inl f))] := hD
  refine lv_aload_n hx hb dX1_whiten_24 rfl (lv_at hl 0 rfl) ?_
  refine va_get (D := (dC, dI)) (ci := 0) (v := .ref ha) (C := RX1) (T := TX1) (N := 4) hx hb hts hiX1 hown hK hP 0 rfl rfl 1 (by decide) (hts (.fieldLink RX1 19 "RefineRegions$Bitmap" "cells" "[I") (by decide +kernel)) (fun _ h9 => h9) rfl dX1_whiten_25 ?_
  refine lv_iconst (v := 0) hx hb dX1_whiten_28 (by decide) ?_
  refine hw_callv (wr := [(h0, .inr (0, [.int (nI n), .ref ha, .int (nI w2), .int (nI h2)]))]) (w2 := fun _ : Unit => [(h0, .inr (0, [.int (nI n), .ref ha, .int (nI w2), .int (nI h2)])), (ha, .inl (cI, n * n, .inl (fun _ => 0)))]) (va_runS (As := [.ref ha, .int 0]) (rest := []) ⟨hx, hb, hml, hown, hts⟩ (c_fill l dC dI cI cZ cJ ha (n * n) f 0 (by have := Nat.mul_le_mul hn hn; omega) H.size) (va_cwS 2 hts gX1_whiten_J7_fill_53178 rfl rfl rfl (by decide +kernel) ⟨Nat.le_of_ble_eq_true rfl, Nat.le_of_ble_eq_true rfl⟩) (hw_pre hP hD hS hA hk [1] (by decide) rfl) rfl rfl hl.1 rfl (lv_room (Nat.le_of_ble_eq_true rfl)) dX1_whiten_29 ⟨Nat.le_of_ble_eq_true rfl, Nat.le_of_ble_eq_true rfl⟩) hP hD hS hA [1] [0] [0, 1] rfl rfl (by decide) (by decide) (by decide) (fun _ => rfl) (fun u_29 H locs hw hP hD hS => ?_)
  have hP : va_P (dC, dI) vwCl [(h0, .inr (0, [.int (nI n), .ref ha, .int (nI w2), .int (nI h2)])), (ha, .inl (cI, n * n, .inl (fun _ => 0)))] H := hP
  have hD : va_D A [(h0, .inr (0, [.int (nI n), .ref ha, .int (nI w2), .int (nI h2)])), (ha, .inl (cI, n * n, .inl (fun _ => 0)))] := hD
  have hP9 := hP
  have hD9 := hD
  exact W.vret hx hb hr (fun t ht hW => ⟨⟨(), rfl, trivial, by rw [ht]; exact hP9, va_K.moved hW.alike hK, hD9⟩, hS.F ht⟩) hS.2.2 dX1_whiten_32
