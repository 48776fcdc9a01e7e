set_option maxHeartbeats 4000000 in
set_option maxRecDepth 100000 in
/-- Reader.fetchByte() -/
theorem c_X3_fetchByte (l : Launch) (dC : Nat → ClassId) (dI : Nat → Nat → Nat) (cI cZ cJ : ClassId) (hrd : Nat) (hs : Nat) (hb0 : Nat) (hba : Nat) (k : Nat) (f : Nat → Int32) (a : Nat) (c : Int64) (t : Int32) (b : Nat) (hk0 : k ≤ 4096) (hb1 : b ≤ k) (sz : Nat) : Met l yX3_fetchByte wsX3_fetchByte ({ frames := 1, cells := 0, slots := 0, locals := 22 }) (hw_Pre (dC, dI) vwCl (ty3 cI cZ cJ) [(hrd, .inr (2, [.ref hs, .ref hb0, .int (nI a), .long c, .int t, .int (nI b)])), (hb0, .inr (1, [.ref hba, .int (nI k)])), (hba, .inl (cI, 4096, .inl f))] sz [.ref hrd]) (va_Qv (fun _ : Unit => True) (hw_at (dC, dI) vwCl (ty3 cI cZ cJ) (fun _ : Unit => [(hrd, .inr (2, [.ref hs, .ref hb0, .int (nI a), .long ((sp_bi k f c b).1), .int ((sp_bi k f c b).2.1), .int (nI ((sp_bi k f c b).2.2))])), (hb0, .inr (1, [.ref hba, .int (nI k)])), (hba, .inl (cI, 4096, .inl f))]) (va_A [(hrd, .inr (2, [.ref hs, .ref hb0, .int (nI a), .long c, .int t, .int (nI b)])), (hb0, .inr (1, [.ref hba, .int (nI k)])), (hba, .inl (cI, 4096, .inl f))] sz)) (va_A [(hrd, .inr (2, [.ref hs, .ref hb0, .int (nI a), .long c, .int t, .int (nI b)])), (hb0, .inr (1, [.ref hba, .int (nI k)])), (hba, .inl (cI, 4096, .inl f))] sz)) 0 0 (va_A [(hrd, .inr (2, [.ref hs, .ref hb0, .int (nI a), .long c, .int t, .int (nI b)])), (hb0, .inr (1, [.ref hba, .int (nI k)])), (hba, .inl (cI, 4096, .inl f))] sz) := by
  refine Met.ofW (cc := cX3_fetchByte) (maxL := 3) (ret := none) (by decide) rfl ?_
  intro pg ev s m args below meth cd s₁ B hml hv
  obtain ⟨rfl, hsz, hP, hK, hN, hZ, hD0⟩ := hv
  have hx := B.exec
  have hb := B.bytes
  have hr := B.returns
  have hts := atoms_spec (ws := wsX3_fetchByte) B.pre
  have hown : s.vm.findClass RX3 = some m.cls := findClass_of_methodNamed B.named
  have hlocks := B.notSynchronized
  subst hsz
  have hD := hD0.self (sz := s.heap.size)
  generalize hAe : va_A [(hrd, .inr (2, [.ref hs, .ref hb0, .int (nI a), .long c, .int t, .int (nI b)])), (hb0, .inr (1, [.ref hba, .int (nI k)])), (hba, .inl (cI, 4096, .inl f))] s.heap.size = A at hD hZ ⊢
  have hA : ∀ q : Nat, s.heap.size ≤ q → A q := fun q h => by rw [← hAe]; exact Or.inr h
  have hS : va_S A s.heap s.heap [] := va_S.rf
  have hk : hw_K (dC, dI) vwCl (ty3 cI cZ cJ) A s := ⟨hK, hN, hZ⟩
  have hiX3 : ∀ w ∈ u_ws RX3 TX3 6, w ∈ wsX3_fetchByte := by decide +kernel
  have hl := lv_entry ([.ref hrd]) (n := 3) (Nat.le_of_ble_eq_true rfl)
  rw [lg_entry_eq]
  generalize (lg_sl ([.ref hrd]) ++ List.replicate (3 - (lg_sl ([.ref hrd])).length) Slot.unset).toArray = ls at hl ⊢
  have hl : lv_has ls 3 [(0, .ref hrd)] := hl
  refine lv_aload_n hx hb dX3_fetchByte_0 rfl (lv_at hl 0 rfl) ?_
  refine va_get (D := (dC, dI)) (ci := 2) (v := .ref hb0) (C := RX3) (T := TX3) (N := 6) hx hb hts hiX3 hown hK hP 0 rfl rfl 1 (by decide) (hts (.fieldLink RX3 31 "RefineRegions$Reader" "in" "LRefineRegions$ByteRow;") (by decide +kernel)) (fun _ h9 => h9) rfl dX3_fetchByte_1 ?_
  refine lv_aload_n hx hb dX3_fetchByte_4 rfl (lv_at hl 0 rfl) ?_
  refine va_get (D := (dC, dI)) (ci := 2) (v := .int (nI b)) (C := RX3) (T := TX3) (N := 6) hx hb hts hiX3 hown hK hP 0 rfl rfl 5 (by decide) (hts (.fieldLink RX3 28 "RefineRegions$Reader" "place" "I") (by decide +kernel)) (fun _ h9 => h9) rfl dX3_fetchByte_5 ?_
  refine lv_sipush (v := 255) hx hb dX3_fetchByte_8 (by decide) ?_
  refine hw_callSe (va_runVN (As := [.int (nI b), .int 255]) (rest := []) ⟨hx, hb, hml, hown, hts⟩ (c_X2_valueOr l dC dI cI cZ cJ hb0 hba k f (nI b) 255 (hk0)) ⟨va_cnB 2 hts gX3_fetchByte_X2_valueOr_n35 rfl rfl rfl (nw_X3_35 hN) (hts (.initialized RX2) (by decide +kernel)) (by decide +kernel) ⟨Nat.le_of_ble_eq_true rfl, Nat.le_of_ble_eq_true rfl⟩, hts (.instanceMethod yX2_valueOr) (by decide +kernel), hts (.selects RX2 yX2_valueOr yX2_valueOr) (by decide +kernel)⟩ (hw_roV hP hS hk [1, 2] rfl (ci := 1) (q0 := 1) rfl rfl) rfl rfl hl.1 rfl (lv_room (Nat.le_of_ble_eq_true rfl)) dX3_fetchByte_11 ⟨Nat.le_of_ble_eq_true rfl, Nat.le_of_ble_eq_true rfl⟩) ?_
  refine hw_i (y := sp_in k f b) (sp_vo_255 (by omega) hk0) ?_
  refine lv_istore_n (lv' := [(1, .int (sp_in k f b)), (0, .ref hrd)]) hx hb dX3_fetchByte_14 rfl hl (by decide) rfl (fun ls hl => ?_)
  refine lv_aload_n hx hb dX3_fetchByte_15 rfl (lv_at hl 1 rfl) ?_
  refine va_get (D := (dC, dI)) (ci := 2) (v := .ref hb0) (C := RX3) (T := TX3) (N := 6) hx hb hts hiX3 hown hK hP 0 rfl rfl 1 (by decide) (hts (.fieldLink RX3 31 "RefineRegions$Reader" "in" "LRefineRegions$ByteRow;") (by decide +kernel)) (fun _ h9 => h9) rfl dX3_fetchByte_16 ?_
  refine lv_aload_n hx hb dX3_fetchByte_19 rfl (lv_at hl 1 rfl) ?_
  refine va_get (D := (dC, dI)) (ci := 2) (v := .int (nI b)) (C := RX3) (T := TX3) (N := 6) hx hb hts hiX3 hown hK hP 0 rfl rfl 5 (by decide) (hts (.fieldLink RX3 28 "RefineRegions$Reader" "place" "I") (by decide +kernel)) (fun _ h9 => h9) rfl dX3_fetchByte_20 ?_
  refine lv_iconst (v := 1) hx hb dX3_fetchByte_23 (by decide) ?_
  refine lv_iadd hx hb dX3_fetchByte_24 ?_
  refine hw_i (y := nI (b + 1)) (nI_1 b) ?_
  refine lv_sipush (v := 255) hx hb dX3_fetchByte_25 (by decide) ?_
  refine hw_callSe (va_runVN (As := [.int (nI (b + 1)), .int 255]) (rest := []) ⟨hx, hb, hml, hown, hts⟩ (c_X2_valueOr l dC dI cI cZ cJ hb0 hba k f (nI (b + 1)) 255 (hk0)) ⟨va_cnB 2 hts gX3_fetchByte_X2_valueOr_n35 rfl rfl rfl (nw_X3_35 hN) (hts (.initialized RX2) (by decide +kernel)) (by decide +kernel) ⟨Nat.le_of_ble_eq_true rfl, Nat.le_of_ble_eq_true rfl⟩, hts (.instanceMethod yX2_valueOr) (by decide +kernel), hts (.selects RX2 yX2_valueOr yX2_valueOr) (by decide +kernel)⟩ (hw_roV hP hS hk [1, 2] rfl (ci := 1) (q0 := 1) rfl rfl) rfl rfl hl.1 rfl (lv_room (Nat.le_of_ble_eq_true rfl)) dX3_fetchByte_28 ⟨Nat.le_of_ble_eq_true rfl, Nat.le_of_ble_eq_true rfl⟩) ?_
  refine hw_i (y := sp_in k f (b + 1)) (sp_vo_255 (by omega) hk0) ?_
  refine lv_istore_n (lv' := [(2, .int (sp_in k f (b + 1))), (1, .int (sp_in k f b)), (0, .ref hrd)]) hx hb dX3_fetchByte_31 rfl hl (by decide) rfl (fun ls hl => ?_)
  refine lv_iload_n hx hb dX3_fetchByte_32 rfl (lv_at hl 1 rfl) ?_
  refine lv_sipush (v := 255) hx hb dX3_fetchByte_33 (by decide) ?_
  refine lv_icmp_ne (tgt := 67) hx hb dX3_fetchByte_36 (by decide) (fun c_36 => ?_) (fun c_36 => ?_)
  · refine lv_aload_n hx hb dX3_fetchByte_67 rfl (lv_at hl 2 rfl) ?_
    refine lv_dup hx hb dX3_fetchByte_68 rfl ?_
    refine va_get (D := (dC, dI)) (ci := 2) (v := .int (nI b)) (C := RX3) (T := TX3) (N := 6) hx hb hts hiX3 hown hK hP 0 rfl rfl 5 (by decide) (hts (.fieldLink RX3 28 "RefineRegions$Reader" "place" "I") (by decide +kernel)) (fun _ h9 => h9) rfl dX3_fetchByte_69 ?_
    refine lv_iconst (v := 1) hx hb dX3_fetchByte_72 (by decide) ?_
    refine lv_iadd hx hb dX3_fetchByte_73 ?_
    refine hw_i (y := nI (b + 1)) (nI_1 b) ?_
    refine va_put (D := (dC, dI)) (ci := 2) (v := .int (nI (b + 1))) (ty := .int) (C := RX3) (T := TX3) (N := 6) hx hb hts hiX3 tyX3 tyX3_ok nmX3 hown hK hP hD hS 0 rfl rfl 5 (by decide) (hts (.fieldLink RX3 28 "RefineRegions$Reader" "place" "I") (by decide +kernel)) (fun _ h9 => h9) rfl (by decide +kernel) rfl rfl (Nat.le_of_ble_eq_true rfl) dX3_fetchByte_74 (fun H locs hP hD hS => ?_)
    have hP : va_P (dC, dI) vwCl [(hrd, .inr (2, [.ref hs, .ref hb0, .int (nI a), .long c, .int t, .int (nI (b + 1))])), (hb0, .inr (1, [.ref hba, .int (nI k)])), (hba, .inl (cI, 4096, .inl f))] H := hP
    have hD : va_D A [(hrd, .inr (2, [.ref hs, .ref hb0, .int (nI a), .long c, .int t, .int (nI (b + 1))])), (hb0, .inr (1, [.ref hba, .int (nI k)])), (hba, .inl (cI, 4096, .inl f))] := hD
    refine lv_aload_n hx hb dX3_fetchByte_77 rfl (lv_at hl 2 rfl) ?_
    refine lv_iload_n hx hb dX3_fetchByte_78 rfl (lv_at hl 1 rfl) ?_
    refine lv_sipush (v := 255) hx hb dX3_fetchByte_79 (by decide) ?_
    refine lv_icmp_ne (tgt := 90) hx hb dX3_fetchByte_82 (by decide) (fun c_82 => ?_) (fun c_82 => absurd c_82 (c_36))
    refine lv_bipush (v := 8) hx hb dX3_fetchByte_90 (by decide) ?_
    refine va_put (D := (dC, dI)) (ci := 2) (v := .int 8) (ty := .int) (C := RX3) (T := TX3) (N := 6) hx hb hts hiX3 tyX3 tyX3_ok nmX3 hown hK hP hD hS 0 rfl rfl 4 (by decide) (hts (.fieldLink RX3 25 "RefineRegions$Reader" "left" "I") (by decide +kernel)) (fun _ h9 => h9) rfl (by decide +kernel) rfl rfl (Nat.le_of_ble_eq_true rfl) dX3_fetchByte_92 (fun H locs hP hD hS => ?_)
    have hP : va_P (dC, dI) vwCl [(hrd, .inr (2, [.ref hs, .ref hb0, .int (nI a), .long c, .int 8, .int (nI (b + 1))])), (hb0, .inr (1, [.ref hba, .int (nI k)])), (hba, .inl (cI, 4096, .inl f))] H := hP
    have hD : va_D A [(hrd, .inr (2, [.ref hs, .ref hb0, .int (nI a), .long c, .int 8, .int (nI (b + 1))])), (hb0, .inr (1, [.ref hba, .int (nI k)])), (hba, .inl (cI, 4096, .inl f))] := hD
    refine lv_aload_n hx hb dX3_fetchByte_95 rfl (lv_at hl 2 rfl) ?_
    refine lv_dup hx hb dX3_fetchByte_96 rfl ?_
    refine va_get (D := (dC, dI)) (ci := 2) (v := .long c) (C := RX3) (T := TX3) (N := 6) hx hb hts hiX3 hown hK hP 0 rfl rfl 3 (by decide) (hts (.fieldLink RX3 21 "RefineRegions$Reader" "code" "J") (by decide +kernel)) (fun _ h9 => h9) rfl dX3_fetchByte_97 ?_
    refine lv_iload_n hx hb dX3_fetchByte_100 rfl (lv_at hl 0 rfl) ?_
    refine lv_i2l (v := (sp_in k f (b + 1)).toInt64) hx hb dX3_fetchByte_101 rfl ?_
    refine lv_iload_n hx hb dX3_fetchByte_102 rfl (lv_at hl 1 rfl) ?_
    refine lv_sipush (v := 255) hx hb dX3_fetchByte_103 (by decide) ?_
    refine lv_icmp_ne (tgt := 114) hx hb dX3_fetchByte_106 (by decide) (fun c_106 => ?_) (fun c_106 => absurd c_106 (c_36))
    refine lv_bipush (v := 8) hx hb dX3_fetchByte_114 (by decide) ?_
    refine lv_lshl (v := ((sp_in k f (b + 1)).toInt64) <<< ((8 : Int32).toInt64 &&& 63)) hx hb dX3_fetchByte_116 rfl ?_
    refine lv_ladd hx hb dX3_fetchByte_117 ?_
    refine va_put (D := (dC, dI)) (ci := 2) (v := .long (c + (((sp_in k f (b + 1)).toInt64) <<< ((8 : Int32).toInt64 &&& 63)))) (ty := .long) (C := RX3) (T := TX3) (N := 6) hx hb hts hiX3 tyX3 tyX3_ok nmX3 hown hK hP hD hS 0 rfl rfl 3 (by decide) (hts (.fieldLink RX3 21 "RefineRegions$Reader" "code" "J") (by decide +kernel)) (fun _ h9 => h9) rfl (by decide +kernel) rfl rfl (Nat.le_of_ble_eq_true rfl) dX3_fetchByte_118 (fun H locs hP hD hS => ?_)
    have hP : va_P (dC, dI) vwCl [(hrd, .inr (2, [.ref hs, .ref hb0, .int (nI a), .long (c + (((sp_in k f (b + 1)).toInt64) <<< ((8 : Int32).toInt64 &&& 63))), .int 8, .int (nI (b + 1))])), (hb0, .inr (1, [.ref hba, .int (nI k)])), (hba, .inl (cI, 4096, .inl f))] H := hP
    have hD : va_D A [(hrd, .inr (2, [.ref hs, .ref hb0, .int (nI a), .long (c + (((sp_in k f (b + 1)).toInt64) <<< ((8 : Int32).toInt64 &&& 63))), .int 8, .int (nI (b + 1))])), (hb0, .inr (1, [.ref hba, .int (nI k)])), (hba, .inl (cI, 4096, .inl f))] := hD
    refine lv_aload_n hx hb dX3_fetchByte_121 rfl (lv_at hl 2 rfl) ?_
    refine lv_dup hx hb dX3_fetchByte_122 rfl ?_
    refine va_get (D := (dC, dI)) (ci := 2) (v := .long (c + (((sp_in k f (b + 1)).toInt64) <<< ((8 : Int32).toInt64 &&& 63)))) (C := RX3) (T := TX3) (N := 6) hx hb hts hiX3 hown hK hP 0 rfl rfl 3 (by decide) (hts (.fieldLink RX3 21 "RefineRegions$Reader" "code" "J") (by decide +kernel)) (fun _ h9 => h9) rfl dX3_fetchByte_123 ?_
    refine lv_ldc2 (v := 4294967295) hx hb hown (hts (.constantLong RX3 44 (4294967295)) (by decide +kernel)) dX3_fetchByte_126 ?_
    refine lv_land hx hb dX3_fetchByte_129 ?_
    refine va_put (D := (dC, dI)) (ci := 2) (v := .long ((c + (((sp_in k f (b + 1)).toInt64) <<< ((8 : Int32).toInt64 &&& 63))) &&& 4294967295)) (ty := .long) (C := RX3) (T := TX3) (N := 6) hx hb hts hiX3 tyX3 tyX3_ok nmX3 hown hK hP hD hS 0 rfl rfl 3 (by decide) (hts (.fieldLink RX3 21 "RefineRegions$Reader" "code" "J") (by decide +kernel)) (fun _ h9 => h9) rfl (by decide +kernel) rfl rfl (Nat.le_of_ble_eq_true rfl) dX3_fetchByte_130 (fun H locs hP hD hS => ?_)
    have hP : va_P (dC, dI) vwCl [(hrd, .inr (2, [.ref hs, .ref hb0, .int (nI a), .long ((c + (((sp_in k f (b + 1)).toInt64) <<< ((8 : Int32).toInt64 &&& 63))) &&& 4294967295), .int 8, .int (nI (b + 1))])), (hb0, .inr (1, [.ref hba, .int (nI k)])), (hba, .inl (cI, 4096, .inl f))] H := hP
    have hD : va_D A [(hrd, .inr (2, [.ref hs, .ref hb0, .int (nI a), .long ((c + (((sp_in k f (b + 1)).toInt64) <<< ((8 : Int32).toInt64 &&& 63))) &&& 4294967295), .int 8, .int (nI (b + 1))])), (hb0, .inr (1, [.ref hba, .int (nI k)])), (hba, .inl (cI, 4096, .inl f))] := hD
    have hP9 : va_P (dC, dI) vwCl ((fun _ : Unit => [(hrd, .inr (2, [.ref hs, .ref hb0, .int (nI a), .long ((sp_bi k f c b).1), .int ((sp_bi k f c b).2.1), .int (nI ((sp_bi k f c b).2.2))])), (hb0, .inr (1, [.ref hba, .int (nI k)])), (hba, .inl (cI, 4096, .inl f))]) ()) H := by
      rw [sp_bi_z c_36]
      exact hP
    have hD9 : va_D A ((fun _ : Unit => [(hrd, .inr (2, [.ref hs, .ref hb0, .int (nI a), .long ((sp_bi k f c b).1), .int ((sp_bi k f c b).2.1), .int (nI ((sp_bi k f c b).2.2))])), (hb0, .inr (1, [.ref hba, .int (nI k)])), (hba, .inl (cI, 4096, .inl f))]) ()) := by
      rw [sp_bi_z c_36]
      exact hD
    exact W.vret hx hb hr (fun t ht hW => ⟨⟨(), rfl, trivial, by rw [ht]; exact hP9, va_K.moved hW.alike hK, hD9⟩, hS.F ht⟩) hS.2.2 dX3_fetchByte_133
  · refine lv_iload_n hx hb dX3_fetchByte_39 rfl (lv_at hl 0 rfl) ?_
    refine lv_sipush (v := 143) hx hb dX3_fetchByte_40 (by decide) ?_
    refine lv_icmp_le (tgt := 67) hx hb dX3_fetchByte_43 (by decide) (fun c_43 => ?_) (fun c_43 => ?_)
    · refine lv_aload_n hx hb dX3_fetchByte_67 rfl (lv_at hl 2 rfl) ?_
      refine lv_dup hx hb dX3_fetchByte_68 rfl ?_
      refine va_get (D := (dC, dI)) (ci := 2) (v := .int (nI b)) (C := RX3) (T := TX3) (N := 6) hx hb hts hiX3 hown hK hP 0 rfl rfl 5 (by decide) (hts (.fieldLink RX3 28 "RefineRegions$Reader" "place" "I") (by decide +kernel)) (fun _ h9 => h9) rfl dX3_fetchByte_69 ?_
      refine lv_iconst (v := 1) hx hb dX3_fetchByte_72 (by decide) ?_
      refine lv_iadd hx hb dX3_fetchByte_73 ?_
      refine hw_i (y := nI (b + 1)) (nI_1 b) ?_
      refine va_put (D := (dC, dI)) (ci := 2) (v := .int (nI (b + 1))) (ty := .int) (C := RX3) (T := TX3) (N := 6) hx hb hts hiX3 tyX3 tyX3_ok nmX3 hown hK hP hD hS 0 rfl rfl 5 (by decide) (hts (.fieldLink RX3 28 "RefineRegions$Reader" "place" "I") (by decide +kernel)) (fun _ h9 => h9) rfl (by decide +kernel) rfl rfl (Nat.le_of_ble_eq_true rfl) dX3_fetchByte_74 (fun H locs hP hD hS => ?_)
      have hP : va_P (dC, dI) vwCl [(hrd, .inr (2, [.ref hs, .ref hb0, .int (nI a), .long c, .int t, .int (nI (b + 1))])), (hb0, .inr (1, [.ref hba, .int (nI k)])), (hba, .inl (cI, 4096, .inl f))] H := hP
      have hD : va_D A [(hrd, .inr (2, [.ref hs, .ref hb0, .int (nI a), .long c, .int t, .int (nI (b + 1))])), (hb0, .inr (1, [.ref hba, .int (nI k)])), (hba, .inl (cI, 4096, .inl f))] := hD
      refine lv_aload_n hx hb dX3_fetchByte_77 rfl (lv_at hl 2 rfl) ?_
      refine lv_iload_n hx hb dX3_fetchByte_78 rfl (lv_at hl 1 rfl) ?_
      refine lv_sipush (v := 255) hx hb dX3_fetchByte_79 (by decide) ?_
      refine lv_icmp_ne (tgt := 90) hx hb dX3_fetchByte_82 (by decide) (fun c_82 => absurd c_82 (fun h9 => h9 c_36)) (fun c_82 => ?_)
      refine lv_bipush (v := 7) hx hb dX3_fetchByte_85 (by decide) ?_
      refine lv_goto (tgt := 92) hx hb dX3_fetchByte_87 (by decide) ?_
      refine va_put (D := (dC, dI)) (ci := 2) (v := .int 7) (ty := .int) (C := RX3) (T := TX3) (N := 6) hx hb hts hiX3 tyX3 tyX3_ok nmX3 hown hK hP hD hS 0 rfl rfl 4 (by decide) (hts (.fieldLink RX3 25 "RefineRegions$Reader" "left" "I") (by decide +kernel)) (fun _ h9 => h9) rfl (by decide +kernel) rfl rfl (Nat.le_of_ble_eq_true rfl) dX3_fetchByte_92 (fun H locs hP hD hS => ?_)
      have hP : va_P (dC, dI) vwCl [(hrd, .inr (2, [.ref hs, .ref hb0, .int (nI a), .long c, .int 7, .int (nI (b + 1))])), (hb0, .inr (1, [.ref hba, .int (nI k)])), (hba, .inl (cI, 4096, .inl f))] H := hP
      have hD : va_D A [(hrd, .inr (2, [.ref hs, .ref hb0, .int (nI a), .long c, .int 7, .int (nI (b + 1))])), (hb0, .inr (1, [.ref hba, .int (nI k)])), (hba, .inl (cI, 4096, .inl f))] := hD
      refine lv_aload_n hx hb dX3_fetchByte_95 rfl (lv_at hl 2 rfl) ?_
      refine lv_dup hx hb dX3_fetchByte_96 rfl ?_
      refine va_get (D := (dC, dI)) (ci := 2) (v := .long c) (C := RX3) (T := TX3) (N := 6) hx hb hts hiX3 hown hK hP 0 rfl rfl 3 (by decide) (hts (.fieldLink RX3 21 "RefineRegions$Reader" "code" "J") (by decide +kernel)) (fun _ h9 => h9) rfl dX3_fetchByte_97 ?_
      refine lv_iload_n hx hb dX3_fetchByte_100 rfl (lv_at hl 0 rfl) ?_
      refine lv_i2l (v := (sp_in k f (b + 1)).toInt64) hx hb dX3_fetchByte_101 rfl ?_
      refine lv_iload_n hx hb dX3_fetchByte_102 rfl (lv_at hl 1 rfl) ?_
      refine lv_sipush (v := 255) hx hb dX3_fetchByte_103 (by decide) ?_
      refine lv_icmp_ne (tgt := 114) hx hb dX3_fetchByte_106 (by decide) (fun c_106 => absurd c_106 (fun h9 => h9 c_36)) (fun c_106 => ?_)
      refine lv_bipush (v := 9) hx hb dX3_fetchByte_109 (by decide) ?_
      refine lv_goto (tgt := 116) hx hb dX3_fetchByte_111 (by decide) ?_
      refine lv_lshl (v := ((sp_in k f (b + 1)).toInt64) <<< ((9 : Int32).toInt64 &&& 63)) hx hb dX3_fetchByte_116 rfl ?_
      refine lv_ladd hx hb dX3_fetchByte_117 ?_
      refine va_put (D := (dC, dI)) (ci := 2) (v := .long (c + (((sp_in k f (b + 1)).toInt64) <<< ((9 : Int32).toInt64 &&& 63)))) (ty := .long) (C := RX3) (T := TX3) (N := 6) hx hb hts hiX3 tyX3 tyX3_ok nmX3 hown hK hP hD hS 0 rfl rfl 3 (by decide) (hts (.fieldLink RX3 21 "RefineRegions$Reader" "code" "J") (by decide +kernel)) (fun _ h9 => h9) rfl (by decide +kernel) rfl rfl (Nat.le_of_ble_eq_true rfl) dX3_fetchByte_118 (fun H locs hP hD hS => ?_)
      have hP : va_P (dC, dI) vwCl [(hrd, .inr (2, [.ref hs, .ref hb0, .int (nI a), .long (c + (((sp_in k f (b + 1)).toInt64) <<< ((9 : Int32).toInt64 &&& 63))), .int 7, .int (nI (b + 1))])), (hb0, .inr (1, [.ref hba, .int (nI k)])), (hba, .inl (cI, 4096, .inl f))] H := hP
      have hD : va_D A [(hrd, .inr (2, [.ref hs, .ref hb0, .int (nI a), .long (c + (((sp_in k f (b + 1)).toInt64) <<< ((9 : Int32).toInt64 &&& 63))), .int 7, .int (nI (b + 1))])), (hb0, .inr (1, [.ref hba, .int (nI k)])), (hba, .inl (cI, 4096, .inl f))] := hD
      refine lv_aload_n hx hb dX3_fetchByte_121 rfl (lv_at hl 2 rfl) ?_
      refine lv_dup hx hb dX3_fetchByte_122 rfl ?_
      refine va_get (D := (dC, dI)) (ci := 2) (v := .long (c + (((sp_in k f (b + 1)).toInt64) <<< ((9 : Int32).toInt64 &&& 63)))) (C := RX3) (T := TX3) (N := 6) hx hb hts hiX3 hown hK hP 0 rfl rfl 3 (by decide) (hts (.fieldLink RX3 21 "RefineRegions$Reader" "code" "J") (by decide +kernel)) (fun _ h9 => h9) rfl dX3_fetchByte_123 ?_
      refine lv_ldc2 (v := 4294967295) hx hb hown (hts (.constantLong RX3 44 (4294967295)) (by decide +kernel)) dX3_fetchByte_126 ?_
      refine lv_land hx hb dX3_fetchByte_129 ?_
      refine va_put (D := (dC, dI)) (ci := 2) (v := .long ((c + (((sp_in k f (b + 1)).toInt64) <<< ((9 : Int32).toInt64 &&& 63))) &&& 4294967295)) (ty := .long) (C := RX3) (T := TX3) (N := 6) hx hb hts hiX3 tyX3 tyX3_ok nmX3 hown hK hP hD hS 0 rfl rfl 3 (by decide) (hts (.fieldLink RX3 21 "RefineRegions$Reader" "code" "J") (by decide +kernel)) (fun _ h9 => h9) rfl (by decide +kernel) rfl rfl (Nat.le_of_ble_eq_true rfl) dX3_fetchByte_130 (fun H locs hP hD hS => ?_)
      have hP : va_P (dC, dI) vwCl [(hrd, .inr (2, [.ref hs, .ref hb0, .int (nI a), .long ((c + (((sp_in k f (b + 1)).toInt64) <<< ((9 : Int32).toInt64 &&& 63))) &&& 4294967295), .int 7, .int (nI (b + 1))])), (hb0, .inr (1, [.ref hba, .int (nI k)])), (hba, .inl (cI, 4096, .inl f))] H := hP
      have hD : va_D A [(hrd, .inr (2, [.ref hs, .ref hb0, .int (nI a), .long ((c + (((sp_in k f (b + 1)).toInt64) <<< ((9 : Int32).toInt64 &&& 63))) &&& 4294967295), .int 7, .int (nI (b + 1))])), (hb0, .inr (1, [.ref hba, .int (nI k)])), (hba, .inl (cI, 4096, .inl f))] := hD
      have hP9 : va_P (dC, dI) vwCl ((fun _ : Unit => [(hrd, .inr (2, [.ref hs, .ref hb0, .int (nI a), .long ((sp_bi k f c b).1), .int ((sp_bi k f c b).2.1), .int (nI ((sp_bi k f c b).2.2))])), (hb0, .inr (1, [.ref hba, .int (nI k)])), (hba, .inl (cI, 4096, .inl f))]) ()) H := by
        rw [sp_bi_y c_36 c_43]
        exact hP
      have hD9 : va_D A ((fun _ : Unit => [(hrd, .inr (2, [.ref hs, .ref hb0, .int (nI a), .long ((sp_bi k f c b).1), .int ((sp_bi k f c b).2.1), .int (nI ((sp_bi k f c b).2.2))])), (hb0, .inr (1, [.ref hba, .int (nI k)])), (hba, .inl (cI, 4096, .inl f))]) ()) := by
        rw [sp_bi_y c_36 c_43]
        exact hD
      exact W.vret hx hb hr (fun t ht hW => ⟨⟨(), rfl, trivial, by rw [ht]; exact hP9, va_K.moved hW.alike hK, hD9⟩, hS.F ht⟩) hS.2.2 dX3_fetchByte_133
    · refine lv_aload_n hx hb dX3_fetchByte_46 rfl (lv_at hl 2 rfl) ?_
      refine lv_dup hx hb dX3_fetchByte_47 rfl ?_
      refine va_get (D := (dC, dI)) (ci := 2) (v := .long c) (C := RX3) (T := TX3) (N := 6) hx hb hts hiX3 hown hK hP 0 rfl rfl 3 (by decide) (hts (.fieldLink RX3 21 "RefineRegions$Reader" "code" "J") (by decide +kernel)) (fun _ h9 => h9) rfl dX3_fetchByte_48 ?_
      refine lv_ldc2 (v := 65280) hx hb hown (hts (.constantLong RX3 60 (65280)) (by decide +kernel)) dX3_fetchByte_51 ?_
      refine lv_ladd hx hb dX3_fetchByte_54 ?_
      refine va_put (D := (dC, dI)) (ci := 2) (v := .long (c + 65280)) (ty := .long) (C := RX3) (T := TX3) (N := 6) hx hb hts hiX3 tyX3 tyX3_ok nmX3 hown hK hP hD hS 0 rfl rfl 3 (by decide) (hts (.fieldLink RX3 21 "RefineRegions$Reader" "code" "J") (by decide +kernel)) (fun _ h9 => h9) rfl (by decide +kernel) rfl rfl (Nat.le_of_ble_eq_true rfl) dX3_fetchByte_55 (fun H locs hP hD hS => ?_)
      have hP : va_P (dC, dI) vwCl [(hrd, .inr (2, [.ref hs, .ref hb0, .int (nI a), .long (c + 65280), .int t, .int (nI b)])), (hb0, .inr (1, [.ref hba, .int (nI k)])), (hba, .inl (cI, 4096, .inl f))] H := hP
      have hD : va_D A [(hrd, .inr (2, [.ref hs, .ref hb0, .int (nI a), .long (c + 65280), .int t, .int (nI b)])), (hb0, .inr (1, [.ref hba, .int (nI k)])), (hba, .inl (cI, 4096, .inl f))] := hD
      refine lv_aload_n hx hb dX3_fetchByte_58 rfl (lv_at hl 2 rfl) ?_
      refine lv_bipush (v := 8) hx hb dX3_fetchByte_59 (by decide) ?_
      refine va_put (D := (dC, dI)) (ci := 2) (v := .int 8) (ty := .int) (C := RX3) (T := TX3) (N := 6) hx hb hts hiX3 tyX3 tyX3_ok nmX3 hown hK hP hD hS 0 rfl rfl 4 (by decide) (hts (.fieldLink RX3 25 "RefineRegions$Reader" "left" "I") (by decide +kernel)) (fun _ h9 => h9) rfl (by decide +kernel) rfl rfl (Nat.le_of_ble_eq_true rfl) dX3_fetchByte_61 (fun H locs hP hD hS => ?_)
      have hP : va_P (dC, dI) vwCl [(hrd, .inr (2, [.ref hs, .ref hb0, .int (nI a), .long (c + 65280), .int 8, .int (nI b)])), (hb0, .inr (1, [.ref hba, .int (nI k)])), (hba, .inl (cI, 4096, .inl f))] H := hP
      have hD : va_D A [(hrd, .inr (2, [.ref hs, .ref hb0, .int (nI a), .long (c + 65280), .int 8, .int (nI b)])), (hb0, .inr (1, [.ref hba, .int (nI k)])), (hba, .inl (cI, 4096, .inl f))] := hD
      refine lv_goto (tgt := 121) hx hb dX3_fetchByte_64 (by decide) ?_
      refine lv_aload_n hx hb dX3_fetchByte_121 rfl (lv_at hl 2 rfl) ?_
      refine lv_dup hx hb dX3_fetchByte_122 rfl ?_
      refine va_get (D := (dC, dI)) (ci := 2) (v := .long (c + 65280)) (C := RX3) (T := TX3) (N := 6) hx hb hts hiX3 hown hK hP 0 rfl rfl 3 (by decide) (hts (.fieldLink RX3 21 "RefineRegions$Reader" "code" "J") (by decide +kernel)) (fun _ h9 => h9) rfl dX3_fetchByte_123 ?_
      refine lv_ldc2 (v := 4294967295) hx hb hown (hts (.constantLong RX3 44 (4294967295)) (by decide +kernel)) dX3_fetchByte_126 ?_
      refine lv_land hx hb dX3_fetchByte_129 ?_
      refine va_put (D := (dC, dI)) (ci := 2) (v := .long ((c + 65280) &&& 4294967295)) (ty := .long) (C := RX3) (T := TX3) (N := 6) hx hb hts hiX3 tyX3 tyX3_ok nmX3 hown hK hP hD hS 0 rfl rfl 3 (by decide) (hts (.fieldLink RX3 21 "RefineRegions$Reader" "code" "J") (by decide +kernel)) (fun _ h9 => h9) rfl (by decide +kernel) rfl rfl (Nat.le_of_ble_eq_true rfl) dX3_fetchByte_130 (fun H locs hP hD hS => ?_)
      have hP : va_P (dC, dI) vwCl [(hrd, .inr (2, [.ref hs, .ref hb0, .int (nI a), .long ((c + 65280) &&& 4294967295), .int 8, .int (nI b)])), (hb0, .inr (1, [.ref hba, .int (nI k)])), (hba, .inl (cI, 4096, .inl f))] H := hP
      have hD : va_D A [(hrd, .inr (2, [.ref hs, .ref hb0, .int (nI a), .long ((c + 65280) &&& 4294967295), .int 8, .int (nI b)])), (hb0, .inr (1, [.ref hba, .int (nI k)])), (hba, .inl (cI, 4096, .inl f))] := hD
      have hP9 : va_P (dC, dI) vwCl ((fun _ : Unit => [(hrd, .inr (2, [.ref hs, .ref hb0, .int (nI a), .long ((sp_bi k f c b).1), .int ((sp_bi k f c b).2.1), .int (nI ((sp_bi k f c b).2.2))])), (hb0, .inr (1, [.ref hba, .int (nI k)])), (hba, .inl (cI, 4096, .inl f))]) ()) H := by
        rw [sp_bi_x c_36 c_43]
        exact hP
      have hD9 : va_D A ((fun _ : Unit => [(hrd, .inr (2, [.ref hs, .ref hb0, .int (nI a), .long ((sp_bi k f c b).1), .int ((sp_bi k f c b).2.1), .int (nI ((sp_bi k f c b).2.2))])), (hb0, .inr (1, [.ref hba, .int (nI k)])), (hba, .inl (cI, 4096, .inl f))]) ()) := by
        rw [sp_bi_x c_36 c_43]
        exact hD
      exact W.vret hx hb hr (fun t ht hW => ⟨⟨(), rfl, trivial, by rw [ht]; exact hP9, va_K.moved hW.alike hK, hD9⟩, hS.F ht⟩) hS.2.2 dX3_fetchByte_133

set_option maxHeartbeats 4000000 in
set_option maxRecDepth 100000 in
/-- Reader.renew() -/
theorem c_X3_renew (l : Launch) (dC : Nat → ClassId) (dI : Nat → Nat → Nat) (cI cZ cJ : ClassId) (hrd : Nat) (hs : Nat) (hb0 : Nat) (hba : Nat) (k : Nat) (f : Nat → Int32) (a : Nat) (c : Int64) (t : Int32) (b : Nat) (hk0 : k ≤ 4096) (hb1 : b ≤ k) (ha0 : a < 32768) (sz : Nat) : Met l yX3_renew wsX3_renew ({ frames := 2, cells := 0, slots := 0, locals := 44 }) (hw_Pre (dC, dI) vwCl (ty3 cI cZ cJ) [(hrd, .inr (2, [.ref hs, .ref hb0, .int (nI a), .long c, .int t, .int (nI b)])), (hb0, .inr (1, [.ref hba, .int (nI k)])), (hba, .inl (cI, 4096, .inl f))] sz [.ref hrd]) (va_Qv (fun _ : Unit => True) (hw_at (dC, dI) vwCl (ty3 cI cZ cJ) (fun _ : Unit => [(hrd, .inr (2, [.ref hs, .ref hb0, .int (nI ((sp_rr k f 15 (a, c, t, b)).1)), .long ((sp_rr k f 15 (a, c, t, b)).2.1), .int ((sp_rr k f 15 (a, c, t, b)).2.2.1), .int (nI ((sp_rr k f 15 (a, c, t, b)).2.2.2))])), (hb0, .inr (1, [.ref hba, .int (nI k)])), (hba, .inl (cI, 4096, .inl f))]) (va_A [(hrd, .inr (2, [.ref hs, .ref hb0, .int (nI a), .long c, .int t, .int (nI b)])), (hb0, .inr (1, [.ref hba, .int (nI k)])), (hba, .inl (cI, 4096, .inl f))] sz)) (va_A [(hrd, .inr (2, [.ref hs, .ref hb0, .int (nI a), .long c, .int t, .int (nI b)])), (hb0, .inr (1, [.ref hba, .int (nI k)])), (hba, .inl (cI, 4096, .inl f))] sz)) 0 0 (va_A [(hrd, .inr (2, [.ref hs, .ref hb0, .int (nI a), .long c, .int t, .int (nI b)])), (hb0, .inr (1, [.ref hba, .int (nI k)])), (hba, .inl (cI, 4096, .inl f))] sz) := by
  refine Met.ofW (cc := cX3_renew) (maxL := 2) (ret := none) (by decide) rfl ?_
  intro pg ev s m args below meth cd s₁ B hml hv
  obtain ⟨rfl, hsz, hP, hK, hN, hZ, hD0⟩ := hv
  have hx := B.exec
  have hb := B.bytes
  have hr := B.returns
  have hts := atoms_spec (ws := wsX3_renew) B.pre
  have hown : s.vm.findClass RX3 = some m.cls := findClass_of_methodNamed B.named
  have hlocks := B.notSynchronized
  subst hsz
  have hD := hD0.self (sz := s.heap.size)
  generalize hAe : va_A [(hrd, .inr (2, [.ref hs, .ref hb0, .int (nI a), .long c, .int t, .int (nI b)])), (hb0, .inr (1, [.ref hba, .int (nI k)])), (hba, .inl (cI, 4096, .inl f))] s.heap.size = A at hD hZ ⊢
  have hA : ∀ q : Nat, s.heap.size ≤ q → A q := fun q h => by rw [← hAe]; exact Or.inr h
  have hS : va_S A s.heap s.heap [] := va_S.rf
  have hk : hw_K (dC, dI) vwCl (ty3 cI cZ cJ) A s := ⟨hK, hN, hZ⟩
  have hiX3 : ∀ w ∈ u_ws RX3 TX3 6, w ∈ wsX3_renew := by decide +kernel
  have hl := lv_entry ([.ref hrd]) (n := 2) (Nat.le_of_ble_eq_true rfl)
  rw [lg_entry_eq]
  generalize (lg_sl ([.ref hrd]) ++ List.replicate (2 - (lg_sl ([.ref hrd])).length) Slot.unset).toArray = ls at hl ⊢
  have hl : lv_has ls 2 [(0, .ref hrd)] := hl
  refine lv_iconst (v := 0) hx hb dX3_renew_0 (by decide) ?_
  refine lv_istore_n (lv' := [(1, .int 0), (0, .ref hrd)]) hx hb dX3_renew_1 rfl hl (by decide) rfl (fun ls hl => ?_)
  have loop_2 : ∀ (fu : Nat) (i : Nat) (a1 : Nat) (c1 : Int64) (t1 : Int32) (b1 : Nat), (i ≤ 15) → (sp_rr k f (15 - i) (a1, c1, t1, b1) = sp_rr k f 15 (a, c, t, b)) → (b1 ≤ k) → (a1 < 32768) → (15 - i < fu) → ∀ (H : Heap) (locs : List Loc), va_P (dC, dI) vwCl [(hrd, .inr (2, [.ref hs, .ref hb0, .int (nI a1), .long c1, .int t1, .int (nI b1)])), (hb0, .inr (1, [.ref hba, .int (nI k)])), (hba, .inl (cI, 4096, .inl f))] H → va_D A [(hrd, .inr (2, [.ref hs, .ref hb0, .int (nI a1), .long c1, .int t1, .int (nI b1)])), (hb0, .inr (1, [.ref hba, .int (nI k)])), (hba, .inl (cI, 4096, .inl f))] → va_S A s.heap H locs → ∀ ls : Array Slot, lv_has ls 2 [(1, .int (nI i)), (0, .ref hrd)] → W pg l ev (headSpec wsX3_renew ({ frames := 2, cells := 0, slots := 0, locals := 44 })).room s m ([.ref hrd]).toArray below meth cd H locs 0 0 (MQ below (va_Qv (fun _ : Unit => True) (hw_at (dC, dI) vwCl (ty3 cI cZ cJ) (fun _ : Unit => [(hrd, .inr (2, [.ref hs, .ref hb0, .int (nI ((sp_rr k f 15 (a, c, t, b)).1)), .long ((sp_rr k f 15 (a, c, t, b)).2.1), .int ((sp_rr k f 15 (a, c, t, b)).2.2.1), .int (nI ((sp_rr k f 15 (a, c, t, b)).2.2.2))])), (hb0, .inr (1, [.ref hba, .int (nI k)])), (hba, .inl (cI, 4096, .inl f))]) A) A) ([.ref hrd]).toArray s 0 0 A) (F0 m 2 ls []) := by
    intro fu
    induction fu with
    | zero =>
      intro i a1 c1 t1 b1 hi he hb2 ha1 hm
      omega
    | succ fu ih =>
      intro i a1 c1 t1 b1 hi he hb2 ha1 hm H locs hP hD hS ls hl
      refine lv_iload_n hx hb dX3_renew_2 rfl (lv_at hl 0 rfl) ?_
      refine lv_bipush (v := 15) hx hb dX3_renew_3 (by decide) ?_
      refine lv_icmp_ge (tgt := 69) hx hb dX3_renew_5 (by decide) (fun c_5 => ?_) (fun c_5 => ?_)
      · have hP9 : va_P (dC, dI) vwCl ((fun _ : Unit => [(hrd, .inr (2, [.ref hs, .ref hb0, .int (nI ((sp_rr k f 15 (a, c, t, b)).1)), .long ((sp_rr k f 15 (a, c, t, b)).2.1), .int ((sp_rr k f 15 (a, c, t, b)).2.2.1), .int (nI ((sp_rr k f 15 (a, c, t, b)).2.2.2))])), (hb0, .inr (1, [.ref hba, .int (nI k)])), (hba, .inl (cI, 4096, .inl f))]) ()) H := by
          rw [← he, show 15 - i = 0 by rw [show (15 : Int32) = nI 15 from rfl, nI_leI (by omega) (by omega)] at c_5; omega]
          exact hP
        have hD9 : va_D A ((fun _ : Unit => [(hrd, .inr (2, [.ref hs, .ref hb0, .int (nI ((sp_rr k f 15 (a, c, t, b)).1)), .long ((sp_rr k f 15 (a, c, t, b)).2.1), .int ((sp_rr k f 15 (a, c, t, b)).2.2.1), .int (nI ((sp_rr k f 15 (a, c, t, b)).2.2.2))])), (hb0, .inr (1, [.ref hba, .int (nI k)])), (hba, .inl (cI, 4096, .inl f))]) ()) := by
          rw [← he, show 15 - i = 0 by rw [show (15 : Int32) = nI 15 from rfl, nI_leI (by omega) (by omega)] at c_5; omega]
          exact hD
        exact W.vret hx hb hr (fun t ht hW => ⟨⟨(), rfl, trivial, by rw [ht]; exact hP9, va_K.moved hW.alike hK, hD9⟩, hS.F ht⟩) hS.2.2 dX3_renew_69
      · have hi9 : i < 15 := by rw [show (15 : Int32) = nI 15 from rfl, nI_leI (by omega) (by omega)] at c_5; omega
        refine lv_aload_n hx hb dX3_renew_8 rfl (lv_at hl 1 rfl) ?_
        refine va_get (D := (dC, dI)) (ci := 2) (v := .int t1) (C := RX3) (T := TX3) (N := 6) hx hb hts hiX3 hown hK hP 0 rfl rfl 4 (by decide) (hts (.fieldLink RX3 25 "RefineRegions$Reader" "left" "I") (by decide +kernel)) (fun _ h9 => h9) rfl dX3_renew_9 ?_
        refine lv_if_ne (tgt := 19) hx hb dX3_renew_12 (by decide) (fun c_12 => ?_) (fun c_12 => ?_)
        · refine lv_aload_n hx hb dX3_renew_19 rfl (lv_at hl 1 rfl) ?_
          refine lv_dup hx hb dX3_renew_20 rfl ?_
          refine va_get (D := (dC, dI)) (ci := 2) (v := .int (nI a1)) (C := RX3) (T := TX3) (N := 6) hx hb hts hiX3 hown hK hP 0 rfl rfl 2 (by decide) (hts (.fieldLink RX3 17 "RefineRegions$Reader" "interval" "I") (by decide +kernel)) (fun _ h9 => h9) rfl dX3_renew_21 ?_
          refine lv_iconst (v := 2) hx hb dX3_renew_24 (by decide) ?_
          refine lv_imul hx hb dX3_renew_25 ?_
          refine hw_i (y := nI (2 * a1)) (by rw [show (2 : Int32) = nI 2 from rfl, pk_mul, Nat.mul_comm]) ?_
          refine va_put (D := (dC, dI)) (ci := 2) (v := .int (nI (2 * a1))) (ty := .int) (C := RX3) (T := TX3) (N := 6) hx hb hts hiX3 tyX3 tyX3_ok nmX3 hown hK hP hD hS 0 rfl rfl 2 (by decide) (hts (.fieldLink RX3 17 "RefineRegions$Reader" "interval" "I") (by decide +kernel)) (fun _ h9 => h9) rfl (by decide +kernel) rfl rfl (Nat.le_of_ble_eq_true rfl) dX3_renew_26 (fun H locs hP hD hS => ?_)
          have hP : va_P (dC, dI) vwCl [(hrd, .inr (2, [.ref hs, .ref hb0, .int (nI (2 * a1)), .long c1, .int t1, .int (nI b1)])), (hb0, .inr (1, [.ref hba, .int (nI k)])), (hba, .inl (cI, 4096, .inl f))] H := hP
          have hD : va_D A [(hrd, .inr (2, [.ref hs, .ref hb0, .int (nI (2 * a1)), .long c1, .int t1, .int (nI b1)])), (hb0, .inr (1, [.ref hba, .int (nI k)])), (hba, .inl (cI, 4096, .inl f))] := hD
          refine lv_aload_n hx hb dX3_renew_29 rfl (lv_at hl 1 rfl) ?_
          refine lv_aload_n hx hb dX3_renew_30 rfl (lv_at hl 1 rfl) ?_
          refine va_get (D := (dC, dI)) (ci := 2) (v := .long c1) (C := RX3) (T := TX3) (N := 6) hx hb hts hiX3 hown hK hP 0 rfl rfl 3 (by decide) (hts (.fieldLink RX3 21 "RefineRegions$Reader" "code" "J") (by decide +kernel)) (fun _ h9 => h9) rfl dX3_renew_31 ?_
          refine lv_iconst (v := 1) hx hb dX3_renew_34 (by decide) ?_
          refine lv_lshl (v := c1 <<< ((1 : Int32).toInt64 &&& 63)) hx hb dX3_renew_35 rfl ?_
          refine lv_ldc2 (v := 4294967295) hx hb hown (hts (.constantLong RX3 44 (4294967295)) (by decide +kernel)) dX3_renew_36 ?_
          refine lv_land hx hb dX3_renew_39 ?_
          refine va_put (D := (dC, dI)) (ci := 2) (v := .long ((c1 <<< ((1 : Int32).toInt64 &&& 63)) &&& 4294967295)) (ty := .long) (C := RX3) (T := TX3) (N := 6) hx hb hts hiX3 tyX3 tyX3_ok nmX3 hown hK hP hD hS 0 rfl rfl 3 (by decide) (hts (.fieldLink RX3 21 "RefineRegions$Reader" "code" "J") (by decide +kernel)) (fun _ h9 => h9) rfl (by decide +kernel) rfl rfl (Nat.le_of_ble_eq_true rfl) dX3_renew_40 (fun H locs hP hD hS => ?_)
          have hP : va_P (dC, dI) vwCl [(hrd, .inr (2, [.ref hs, .ref hb0, .int (nI (2 * a1)), .long ((c1 <<< ((1 : Int32).toInt64 &&& 63)) &&& 4294967295), .int t1, .int (nI b1)])), (hb0, .inr (1, [.ref hba, .int (nI k)])), (hba, .inl (cI, 4096, .inl f))] H := hP
          have hD : va_D A [(hrd, .inr (2, [.ref hs, .ref hb0, .int (nI (2 * a1)), .long ((c1 <<< ((1 : Int32).toInt64 &&& 63)) &&& 4294967295), .int t1, .int (nI b1)])), (hb0, .inr (1, [.ref hba, .int (nI k)])), (hba, .inl (cI, 4096, .inl f))] := hD
          refine lv_aload_n hx hb dX3_renew_43 rfl (lv_at hl 1 rfl) ?_
          refine lv_dup hx hb dX3_renew_44 rfl ?_
          refine va_get (D := (dC, dI)) (ci := 2) (v := .int t1) (C := RX3) (T := TX3) (N := 6) hx hb hts hiX3 hown hK hP 0 rfl rfl 4 (by decide) (hts (.fieldLink RX3 25 "RefineRegions$Reader" "left" "I") (by decide +kernel)) (fun _ h9 => h9) rfl dX3_renew_45 ?_
          refine lv_iconst (v := 1) hx hb dX3_renew_48 (by decide) ?_
          refine lv_isub hx hb dX3_renew_49 ?_
          refine va_put (D := (dC, dI)) (ci := 2) (v := .int (t1 - 1)) (ty := .int) (C := RX3) (T := TX3) (N := 6) hx hb hts hiX3 tyX3 tyX3_ok nmX3 hown hK hP hD hS 0 rfl rfl 4 (by decide) (hts (.fieldLink RX3 25 "RefineRegions$Reader" "left" "I") (by decide +kernel)) (fun _ h9 => h9) rfl (by decide +kernel) rfl rfl (Nat.le_of_ble_eq_true rfl) dX3_renew_50 (fun H locs hP hD hS => ?_)
          have hP : va_P (dC, dI) vwCl [(hrd, .inr (2, [.ref hs, .ref hb0, .int (nI (2 * a1)), .long ((c1 <<< ((1 : Int32).toInt64 &&& 63)) &&& 4294967295), .int (t1 - 1), .int (nI b1)])), (hb0, .inr (1, [.ref hba, .int (nI k)])), (hba, .inl (cI, 4096, .inl f))] H := hP
          have hD : va_D A [(hrd, .inr (2, [.ref hs, .ref hb0, .int (nI (2 * a1)), .long ((c1 <<< ((1 : Int32).toInt64 &&& 63)) &&& 4294967295), .int (t1 - 1), .int (nI b1)])), (hb0, .inr (1, [.ref hba, .int (nI k)])), (hba, .inl (cI, 4096, .inl f))] := hD
          refine lv_aload_n hx hb dX3_renew_53 rfl (lv_at hl 1 rfl) ?_
          refine va_get (D := (dC, dI)) (ci := 2) (v := .int (nI (2 * a1))) (C := RX3) (T := TX3) (N := 6) hx hb hts hiX3 hown hK hP 0 rfl rfl 2 (by decide) (hts (.fieldLink RX3 17 "RefineRegions$Reader" "interval" "I") (by decide +kernel)) (fun _ h9 => h9) rfl dX3_renew_54 ?_
          refine lv_ldc (v := 32768) hx hb hown (hts (.constant RX3 16 (32768)) (by decide +kernel)) dX3_renew_57 ?_
          refine lv_icmp_lt (tgt := 63) hx hb dX3_renew_59 (by decide) (fun c_59 => ?_) (fun c_59 => ?_)
          · have hl9 : 2 * a1 < 32768 := by rw [show (32768 : Int32) = nI 32768 from rfl, nI_ltI (by omega) (by omega)] at c_59; exact c_59
            refine lv_iinc (v := nI (i + 1)) (lv' := [(1, .int (nI (i + 1))), (0, .ref hrd)]) hx hb dX3_renew_63 hl (k := 0) rfl (nI_1 i) (by decide) rfl (fun ls hl => ?_)
            refine lv_goto (tgt := 2) hx hb dX3_renew_66 (by decide) ?_
            exact ih (i + 1) (2 * a1) (c1 <<< ((1 : Int32).toInt64 &&& 63) &&& 4294967295) (t1 - 1) b1 (by omega) (by rw [← sp_rr_2 c_12 hl9, show 15 - (i + 1) + 1 = 15 - i by omega]; exact he) (hb2) (hl9) (by omega) _ _ hP hD hS ls (lv_sub hl [0, 1] rfl)
          · have hl9 : ¬ 2 * a1 < 32768 := by rw [show (32768 : Int32) = nI 32768 from rfl, nI_ltI (by omega) (by omega)] at c_59; exact c_59
            have hP9 : va_P (dC, dI) vwCl ((fun _ : Unit => [(hrd, .inr (2, [.ref hs, .ref hb0, .int (nI ((sp_rr k f 15 (a, c, t, b)).1)), .long ((sp_rr k f 15 (a, c, t, b)).2.1), .int ((sp_rr k f 15 (a, c, t, b)).2.2.1), .int (nI ((sp_rr k f 15 (a, c, t, b)).2.2.2))])), (hb0, .inr (1, [.ref hba, .int (nI k)])), (hba, .inl (cI, 4096, .inl f))]) ()) H := by
              rw [← he, show 15 - i = (14 - i) + 1 by omega, sp_rr_4 c_12 hl9]
              exact hP
            have hD9 : va_D A ((fun _ : Unit => [(hrd, .inr (2, [.ref hs, .ref hb0, .int (nI ((sp_rr k f 15 (a, c, t, b)).1)), .long ((sp_rr k f 15 (a, c, t, b)).2.1), .int ((sp_rr k f 15 (a, c, t, b)).2.2.1), .int (nI ((sp_rr k f 15 (a, c, t, b)).2.2.2))])), (hb0, .inr (1, [.ref hba, .int (nI k)])), (hba, .inl (cI, 4096, .inl f))]) ()) := by
              rw [← he, show 15 - i = (14 - i) + 1 by omega, sp_rr_4 c_12 hl9]
              exact hD
            exact W.vret hx hb hr (fun t ht hW => ⟨⟨(), rfl, trivial, by rw [ht]; exact hP9, va_K.moved hW.alike hK, hD9⟩, hS.F ht⟩) hS.2.2 dX3_renew_62
        · refine lv_aload_n hx hb dX3_renew_15 rfl (lv_at hl 1 rfl) ?_
          refine hw_callv (wr := []) (w2 := fun _ : Unit => [(hrd, .inr (2, [.ref hs, .ref hb0, .int (nI a1), .long ((sp_bi k f c1 b1).1), .int ((sp_bi k f c1 b1).2.1), .int (nI ((sp_bi k f c1 b1).2.2))])), (hb0, .inr (1, [.ref hba, .int (nI k)])), (hba, .inl (cI, 4096, .inl f))]) (va_runV (As := []) (rest := []) ⟨hx, hb, hml, hown, hts⟩ (c_X3_fetchByte l dC dI cI cZ cJ hrd hs hb0 hba k f a1 c1 t1 b1 (hk0) (hb2) H.size) (cwV 0 hts gX3_renew_X3_fetchByte rfl rfl rfl (by decide +kernel) ⟨Nat.le_of_ble_eq_true rfl, Nat.le_of_ble_eq_true rfl⟩) (hw_preV hP hD hS hA hk [0, 1, 2] (by decide) rfl (ci := 2) (q0 := 0) rfl rfl) rfl rfl hl.1 rfl (lv_room (Nat.le_of_ble_eq_true rfl)) dX3_renew_16 ⟨Nat.le_of_ble_eq_true rfl, Nat.le_of_ble_eq_true rfl⟩) hP hD hS hA [0, 1, 2] [] [0, 1, 2] rfl rfl (by decide) (by decide) (by decide) (fun _ => rfl) (fun u_16 H locs hw hP hD hS => ?_)
          have hP : va_P (dC, dI) vwCl [(hrd, .inr (2, [.ref hs, .ref hb0, .int (nI a1), .long ((sp_bi k f c1 b1).1), .int ((sp_bi k f c1 b1).2.1), .int (nI ((sp_bi k f c1 b1).2.2))])), (hb0, .inr (1, [.ref hba, .int (nI k)])), (hba, .inl (cI, 4096, .inl f))] H := hP
          have hD : va_D A [(hrd, .inr (2, [.ref hs, .ref hb0, .int (nI a1), .long ((sp_bi k f c1 b1).1), .int ((sp_bi k f c1 b1).2.1), .int (nI ((sp_bi k f c1 b1).2.2))])), (hb0, .inr (1, [.ref hba, .int (nI k)])), (hba, .inl (cI, 4096, .inl f))] := hD
          refine lv_aload_n hx hb dX3_renew_19 rfl (lv_at hl 1 rfl) ?_
          refine lv_dup hx hb dX3_renew_20 rfl ?_
          refine va_get (D := (dC, dI)) (ci := 2) (v := .int (nI a1)) (C := RX3) (T := TX3) (N := 6) hx hb hts hiX3 hown hK hP 0 rfl rfl 2 (by decide) (hts (.fieldLink RX3 17 "RefineRegions$Reader" "interval" "I") (by decide +kernel)) (fun _ h9 => h9) rfl dX3_renew_21 ?_
          refine lv_iconst (v := 2) hx hb dX3_renew_24 (by decide) ?_
          refine lv_imul hx hb dX3_renew_25 ?_
          refine hw_i (y := nI (2 * a1)) (by rw [show (2 : Int32) = nI 2 from rfl, pk_mul, Nat.mul_comm]) ?_
          refine va_put (D := (dC, dI)) (ci := 2) (v := .int (nI (2 * a1))) (ty := .int) (C := RX3) (T := TX3) (N := 6) hx hb hts hiX3 tyX3 tyX3_ok nmX3 hown hK hP hD hS 0 rfl rfl 2 (by decide) (hts (.fieldLink RX3 17 "RefineRegions$Reader" "interval" "I") (by decide +kernel)) (fun _ h9 => h9) rfl (by decide +kernel) rfl rfl (Nat.le_of_ble_eq_true rfl) dX3_renew_26 (fun H locs hP hD hS => ?_)
          have hP : va_P (dC, dI) vwCl [(hrd, .inr (2, [.ref hs, .ref hb0, .int (nI (2 * a1)), .long ((sp_bi k f c1 b1).1), .int ((sp_bi k f c1 b1).2.1), .int (nI ((sp_bi k f c1 b1).2.2))])), (hb0, .inr (1, [.ref hba, .int (nI k)])), (hba, .inl (cI, 4096, .inl f))] H := hP
          have hD : va_D A [(hrd, .inr (2, [.ref hs, .ref hb0, .int (nI (2 * a1)), .long ((sp_bi k f c1 b1).1), .int ((sp_bi k f c1 b1).2.1), .int (nI ((sp_bi k f c1 b1).2.2))])), (hb0, .inr (1, [.ref hba, .int (nI k)])), (hba, .inl (cI, 4096, .inl f))] := hD
          refine lv_aload_n hx hb dX3_renew_29 rfl (lv_at hl 1 rfl) ?_
          refine lv_aload_n hx hb dX3_renew_30 rfl (lv_at hl 1 rfl) ?_
          refine va_get (D := (dC, dI)) (ci := 2) (v := .long ((sp_bi k f c1 b1).1)) (C := RX3) (T := TX3) (N := 6) hx hb hts hiX3 hown hK hP 0 rfl rfl 3 (by decide) (hts (.fieldLink RX3 21 "RefineRegions$Reader" "code" "J") (by decide +kernel)) (fun _ h9 => h9) rfl dX3_renew_31 ?_
          refine lv_iconst (v := 1) hx hb dX3_renew_34 (by decide) ?_
          refine lv_lshl (v := ((sp_bi k f c1 b1).1) <<< ((1 : Int32).toInt64 &&& 63)) hx hb dX3_renew_35 rfl ?_
          refine lv_ldc2 (v := 4294967295) hx hb hown (hts (.constantLong RX3 44 (4294967295)) (by decide +kernel)) dX3_renew_36 ?_
          refine lv_land hx hb dX3_renew_39 ?_
          refine va_put (D := (dC, dI)) (ci := 2) (v := .long ((((sp_bi k f c1 b1).1) <<< ((1 : Int32).toInt64 &&& 63)) &&& 4294967295)) (ty := .long) (C := RX3) (T := TX3) (N := 6) hx hb hts hiX3 tyX3 tyX3_ok nmX3 hown hK hP hD hS 0 rfl rfl 3 (by decide) (hts (.fieldLink RX3 21 "RefineRegions$Reader" "code" "J") (by decide +kernel)) (fun _ h9 => h9) rfl (by decide +kernel) rfl rfl (Nat.le_of_ble_eq_true rfl) dX3_renew_40 (fun H locs hP hD hS => ?_)
          have hP : va_P (dC, dI) vwCl [(hrd, .inr (2, [.ref hs, .ref hb0, .int (nI (2 * a1)), .long ((((sp_bi k f c1 b1).1) <<< ((1 : Int32).toInt64 &&& 63)) &&& 4294967295), .int ((sp_bi k f c1 b1).2.1), .int (nI ((sp_bi k f c1 b1).2.2))])), (hb0, .inr (1, [.ref hba, .int (nI k)])), (hba, .inl (cI, 4096, .inl f))] H := hP
          have hD : va_D A [(hrd, .inr (2, [.ref hs, .ref hb0, .int (nI (2 * a1)), .long ((((sp_bi k f c1 b1).1) <<< ((1 : Int32).toInt64 &&& 63)) &&& 4294967295), .int ((sp_bi k f c1 b1).2.1), .int (nI ((sp_bi k f c1 b1).2.2))])), (hb0, .inr (1, [.ref hba, .int (nI k)])), (hba, .inl (cI, 4096, .inl f))] := hD
          refine lv_aload_n hx hb dX3_renew_43 rfl (lv_at hl 1 rfl) ?_
          refine lv_dup hx hb dX3_renew_44 rfl ?_
          refine va_get (D := (dC, dI)) (ci := 2) (v := .int ((sp_bi k f c1 b1).2.1)) (C := RX3) (T := TX3) (N := 6) hx hb hts hiX3 hown hK hP 0 rfl rfl 4 (by decide) (hts (.fieldLink RX3 25 "RefineRegions$Reader" "left" "I") (by decide +kernel)) (fun _ h9 => h9) rfl dX3_renew_45 ?_
          refine lv_iconst (v := 1) hx hb dX3_renew_48 (by decide) ?_
          refine lv_isub hx hb dX3_renew_49 ?_
          refine va_put (D := (dC, dI)) (ci := 2) (v := .int (((sp_bi k f c1 b1).2.1) - 1)) (ty := .int) (C := RX3) (T := TX3) (N := 6) hx hb hts hiX3 tyX3 tyX3_ok nmX3 hown hK hP hD hS 0 rfl rfl 4 (by decide) (hts (.fieldLink RX3 25 "RefineRegions$Reader" "left" "I") (by decide +kernel)) (fun _ h9 => h9) rfl (by decide +kernel) rfl rfl (Nat.le_of_ble_eq_true rfl) dX3_renew_50 (fun H locs hP hD hS => ?_)
          have hP : va_P (dC, dI) vwCl [(hrd, .inr (2, [.ref hs, .ref hb0, .int (nI (2 * a1)), .long ((((sp_bi k f c1 b1).1) <<< ((1 : Int32).toInt64 &&& 63)) &&& 4294967295), .int (((sp_bi k f c1 b1).2.1) - 1), .int (nI ((sp_bi k f c1 b1).2.2))])), (hb0, .inr (1, [.ref hba, .int (nI k)])), (hba, .inl (cI, 4096, .inl f))] H := hP
          have hD : va_D A [(hrd, .inr (2, [.ref hs, .ref hb0, .int (nI (2 * a1)), .long ((((sp_bi k f c1 b1).1) <<< ((1 : Int32).toInt64 &&& 63)) &&& 4294967295), .int (((sp_bi k f c1 b1).2.1) - 1), .int (nI ((sp_bi k f c1 b1).2.2))])), (hb0, .inr (1, [.ref hba, .int (nI k)])), (hba, .inl (cI, 4096, .inl f))] := hD
          refine lv_aload_n hx hb dX3_renew_53 rfl (lv_at hl 1 rfl) ?_
          refine va_get (D := (dC, dI)) (ci := 2) (v := .int (nI (2 * a1))) (C := RX3) (T := TX3) (N := 6) hx hb hts hiX3 hown hK hP 0 rfl rfl 2 (by decide) (hts (.fieldLink RX3 17 "RefineRegions$Reader" "interval" "I") (by decide +kernel)) (fun _ h9 => h9) rfl dX3_renew_54 ?_
          refine lv_ldc (v := 32768) hx hb hown (hts (.constant RX3 16 (32768)) (by decide +kernel)) dX3_renew_57 ?_
          refine lv_icmp_lt (tgt := 63) hx hb dX3_renew_59 (by decide) (fun c_59 => ?_) (fun c_59 => ?_)
          · have hl9 : 2 * a1 < 32768 := by rw [show (32768 : Int32) = nI 32768 from rfl, nI_ltI (by omega) (by omega)] at c_59; exact c_59
            refine lv_iinc (v := nI (i + 1)) (lv' := [(1, .int (nI (i + 1))), (0, .ref hrd)]) hx hb dX3_renew_63 hl (k := 0) rfl (nI_1 i) (by decide) rfl (fun ls hl => ?_)
            refine lv_goto (tgt := 2) hx hb dX3_renew_66 (by decide) ?_
            exact ih (i + 1) (2 * a1) ((sp_bi k f c1 b1).1 <<< ((1 : Int32).toInt64 &&& 63) &&& 4294967295) ((sp_bi k f c1 b1).2.1 - 1) ((sp_bi k f c1 b1).2.2) (by omega) (by rw [← sp_rr_1 c_12 hl9, show 15 - (i + 1) + 1 = 15 - i by omega]; exact he) (sp_bi_b hb2) (hl9) (by omega) _ _ hP hD hS ls (lv_sub hl [0, 1] rfl)
          · have hl9 : ¬ 2 * a1 < 32768 := by rw [show (32768 : Int32) = nI 32768 from rfl, nI_ltI (by omega) (by omega)] at c_59; exact c_59
            have hP9 : va_P (dC, dI) vwCl ((fun _ : Unit => [(hrd, .inr (2, [.ref hs, .ref hb0, .int (nI ((sp_rr k f 15 (a, c, t, b)).1)), .long ((sp_rr k f 15 (a, c, t, b)).2.1), .int ((sp_rr k f 15 (a, c, t, b)).2.2.1), .int (nI ((sp_rr k f 15 (a, c, t, b)).2.2.2))])), (hb0, .inr (1, [.ref hba, .int (nI k)])), (hba, .inl (cI, 4096, .inl f))]) ()) H := by
              rw [← he, show 15 - i = (14 - i) + 1 by omega, sp_rr_3 c_12 hl9]
              exact hP
            have hD9 : va_D A ((fun _ : Unit => [(hrd, .inr (2, [.ref hs, .ref hb0, .int (nI ((sp_rr k f 15 (a, c, t, b)).1)), .long ((sp_rr k f 15 (a, c, t, b)).2.1), .int ((sp_rr k f 15 (a, c, t, b)).2.2.1), .int (nI ((sp_rr k f 15 (a, c, t, b)).2.2.2))])), (hb0, .inr (1, [.ref hba, .int (nI k)])), (hba, .inl (cI, 4096, .inl f))]) ()) := by
              rw [← he, show 15 - i = (14 - i) + 1 by omega, sp_rr_3 c_12 hl9]
              exact hD
            exact W.vret hx hb hr (fun t ht hW => ⟨⟨(), rfl, trivial, by rw [ht]; exact hP9, va_K.moved hW.alike hK, hD9⟩, hS.F ht⟩) hS.2.2 dX3_renew_62
  exact loop_2 (16) 0 a c t b (by omega) (rfl) (hb1) (ha0) (by omega) _ _ hP hD hS ls (lv_sub hl [0, 1] rfl)

set_option maxHeartbeats 4000000 in
set_option maxRecDepth 100000 in
/-- Reader.begin() -/
theorem c_X3_begin (l : Launch) (dC : Nat → ClassId) (dI : Nat → Nat → Nat) (cI cZ cJ : ClassId) (hrd : Nat) (hs : Nat) (hb0 : Nat) (hba : Nat) (k : Nat) (f : Nat → Int32) (a : Nat) (c : Int64) (t : Int32) (b : Nat) (hk0 : k ≤ 4096) (sz : Nat) : Met l yX3_begin wsX3_begin ({ frames := 2, cells := 0, slots := 0, locals := 44 }) (hw_Pre (dC, dI) vwCl (ty3 cI cZ cJ) [(hrd, .inr (2, [.ref hs, .ref hb0, .int (nI a), .long c, .int t, .int (nI b)])), (hb0, .inr (1, [.ref hba, .int (nI k)])), (hba, .inl (cI, 4096, .inl f))] sz [.ref hrd]) (va_Qv (fun _ : Unit => True) (hw_at (dC, dI) vwCl (ty3 cI cZ cJ) (fun _ : Unit => [(hrd, .inr (2, [.ref hs, .ref hb0, .int (nI 32768), .long ((sp_bi k f ((sp_vo k f 0 255).toInt64 <<< ((16 : Int32).toInt64 &&& 63)) 0).1 <<< ((7 : Int32).toInt64 &&& 63) &&& 4294967295), .int ((sp_bi k f ((sp_vo k f 0 255).toInt64 <<< ((16 : Int32).toInt64 &&& 63)) 0).2.1 - 7), .int (nI ((sp_bi k f ((sp_vo k f 0 255).toInt64 <<< ((16 : Int32).toInt64 &&& 63)) 0).2.2))])), (hb0, .inr (1, [.ref hba, .int (nI k)])), (hba, .inl (cI, 4096, .inl f))]) (va_A [(hrd, .inr (2, [.ref hs, .ref hb0, .int (nI a), .long c, .int t, .int (nI b)])), (hb0, .inr (1, [.ref hba, .int (nI k)])), (hba, .inl (cI, 4096, .inl f))] sz)) (va_A [(hrd, .inr (2, [.ref hs, .ref hb0, .int (nI a), .long c, .int t, .int (nI b)])), (hb0, .inr (1, [.ref hba, .int (nI k)])), (hba, .inl (cI, 4096, .inl f))] sz)) 0 0 (va_A [(hrd, .inr (2, [.ref hs, .ref hb0, .int (nI a), .long c, .int t, .int (nI b)])), (hb0, .inr (1, [.ref hba, .int (nI k)])), (hba, .inl (cI, 4096, .inl f))] sz) := by
  refine Met.ofW (cc := cX3_begin) (maxL := 1) (ret := none) (by decide) rfl ?_
  intro pg ev s m args below meth cd s₁ B hml hv
  obtain ⟨rfl, hsz, hP, hK, hN, hZ, hD0⟩ := hv
  have hx := B.exec
  have hb := B.bytes
  have hr := B.returns
  have hts := atoms_spec (ws := wsX3_begin) B.pre
  have hown : s.vm.findClass RX3 = some m.cls := findClass_of_methodNamed B.named
  have hlocks := B.notSynchronized
  subst hsz
  have hD := hD0.self (sz := s.heap.size)
  generalize hAe : va_A [(hrd, .inr (2, [.ref hs, .ref hb0, .int (nI a), .long c, .int t, .int (nI b)])), (hb0, .inr (1, [.ref hba, .int (nI k)])), (hba, .inl (cI, 4096, .inl f))] s.heap.size = A at hD hZ ⊢
  have hA : ∀ q : Nat, s.heap.size ≤ q → A q := fun q h => by rw [← hAe]; exact Or.inr h
  have hS : va_S A s.heap s.heap [] := va_S.rf
  have hk : hw_K (dC, dI) vwCl (ty3 cI cZ cJ) A s := ⟨hK, hN, hZ⟩
  have hiX3 : ∀ w ∈ u_ws RX3 TX3 6, w ∈ wsX3_begin := by decide +kernel
  have hl := lv_entry ([.ref hrd]) (n := 1) (Nat.le_of_ble_eq_true rfl)
  rw [lg_entry_eq]
  generalize (lg_sl ([.ref hrd]) ++ List.replicate (1 - (lg_sl ([.ref hrd])).length) Slot.unset).toArray = ls at hl ⊢
  have hl : lv_has ls 1 [(0, .ref hrd)] := hl
  refine lv_aload_n hx hb dX3_begin_0 rfl (lv_at hl 0 rfl) ?_
  refine lv_iconst (v := 0) hx hb dX3_begin_1 (by decide) ?_
  refine va_put (D := (dC, dI)) (ci := 2) (v := .int 0) (ty := .int) (C := RX3) (T := TX3) (N := 6) hx hb hts hiX3 tyX3 tyX3_ok nmX3 hown hK hP hD hS 0 rfl rfl 5 (by decide) (hts (.fieldLink RX3 28 "RefineRegions$Reader" "place" "I") (by decide +kernel)) (fun _ h9 => h9) rfl (by decide +kernel) rfl rfl (Nat.le_of_ble_eq_true rfl) dX3_begin_2 (fun H locs hP hD hS => ?_)
  have hP : va_P (dC, dI) vwCl [(hrd, .inr (2, [.ref hs, .ref hb0, .int (nI a), .long c, .int t, .int 0])), (hb0, .inr (1, [.ref hba, .int (nI k)])), (hba, .inl (cI, 4096, .inl f))] H := hP
  have hD : va_D A [(hrd, .inr (2, [.ref hs, .ref hb0, .int (nI a), .long c, .int t, .int 0])), (hb0, .inr (1, [.ref hba, .int (nI k)])), (hba, .inl (cI, 4096, .inl f))] := hD
  refine lv_aload_n hx hb dX3_begin_5 rfl (lv_at hl 0 rfl) ?_
  refine lv_aload_n hx hb dX3_begin_6 rfl (lv_at hl 0 rfl) ?_
  refine va_get (D := (dC, dI)) (ci := 2) (v := .ref hb0) (C := RX3) (T := TX3) (N := 6) hx hb hts hiX3 hown hK hP 0 rfl rfl 1 (by decide) (hts (.fieldLink RX3 31 "RefineRegions$Reader" "in" "LRefineRegions$ByteRow;") (by decide +kernel)) (fun _ h9 => h9) rfl dX3_begin_7 ?_
  refine lv_iconst (v := 0) hx hb dX3_begin_10 (by decide) ?_
  refine lv_sipush (v := 255) hx hb dX3_begin_11 (by decide) ?_
  refine hw_callSe (va_runVN (As := [.int 0, .int 255]) (rest := [.ref hrd]) ⟨hx, hb, hml, hown, hts⟩ (c_X2_valueOr l dC dI cI cZ cJ hb0 hba k f 0 255 (hk0)) ⟨va_cnB 2 hts gX3_begin_X2_valueOr_n35 rfl rfl rfl (nw_X3_35 hN) (hts (.initialized RX2) (by decide +kernel)) (by decide +kernel) ⟨Nat.le_of_ble_eq_true rfl, Nat.le_of_ble_eq_true rfl⟩, hts (.instanceMethod yX2_valueOr) (by decide +kernel), hts (.selects RX2 yX2_valueOr yX2_valueOr) (by decide +kernel)⟩ (hw_roV hP hS hk [1, 2] rfl (ci := 1) (q0 := 1) rfl rfl) rfl rfl hl.1 rfl (lv_room (Nat.le_of_ble_eq_true rfl)) dX3_begin_14 ⟨Nat.le_of_ble_eq_true rfl, Nat.le_of_ble_eq_true rfl⟩) ?_
  refine lv_i2l (v := (sp_vo k f 0 255).toInt64) hx hb dX3_begin_17 rfl ?_
  refine lv_bipush (v := 16) hx hb dX3_begin_18 (by decide) ?_
  refine lv_lshl (v := ((sp_vo k f 0 255).toInt64) <<< ((16 : Int32).toInt64 &&& 63)) hx hb dX3_begin_20 rfl ?_
  refine va_put (D := (dC, dI)) (ci := 2) (v := .long (((sp_vo k f 0 255).toInt64) <<< ((16 : Int32).toInt64 &&& 63))) (ty := .long) (C := RX3) (T := TX3) (N := 6) hx hb hts hiX3 tyX3 tyX3_ok nmX3 hown hK hP hD hS 0 rfl rfl 3 (by decide) (hts (.fieldLink RX3 21 "RefineRegions$Reader" "code" "J") (by decide +kernel)) (fun _ h9 => h9) rfl (by decide +kernel) rfl rfl (Nat.le_of_ble_eq_true rfl) dX3_begin_21 (fun H locs hP hD hS => ?_)
  have hP : va_P (dC, dI) vwCl [(hrd, .inr (2, [.ref hs, .ref hb0, .int (nI a), .long (((sp_vo k f 0 255).toInt64) <<< ((16 : Int32).toInt64 &&& 63)), .int t, .int 0])), (hb0, .inr (1, [.ref hba, .int (nI k)])), (hba, .inl (cI, 4096, .inl f))] H := hP
  have hD : va_D A [(hrd, .inr (2, [.ref hs, .ref hb0, .int (nI a), .long (((sp_vo k f 0 255).toInt64) <<< ((16 : Int32).toInt64 &&& 63)), .int t, .int 0])), (hb0, .inr (1, [.ref hba, .int (nI k)])), (hba, .inl (cI, 4096, .inl f))] := hD
  refine lv_aload_n hx hb dX3_begin_24 rfl (lv_at hl 0 rfl) ?_
  refine hw_callv (wr := []) (w2 := fun _ : Unit => [(hrd, .inr (2, [.ref hs, .ref hb0, .int (nI a), .long ((sp_bi k f (((sp_vo k f 0 255).toInt64) <<< ((16 : Int32).toInt64 &&& 63)) 0).1), .int ((sp_bi k f (((sp_vo k f 0 255).toInt64) <<< ((16 : Int32).toInt64 &&& 63)) 0).2.1), .int (nI ((sp_bi k f (((sp_vo k f 0 255).toInt64) <<< ((16 : Int32).toInt64 &&& 63)) 0).2.2))])), (hb0, .inr (1, [.ref hba, .int (nI k)])), (hba, .inl (cI, 4096, .inl f))]) (va_runV (As := []) (rest := []) ⟨hx, hb, hml, hown, hts⟩ (c_X3_fetchByte l dC dI cI cZ cJ hrd hs hb0 hba k f a (((sp_vo k f 0 255).toInt64) <<< ((16 : Int32).toInt64 &&& 63)) t 0 (hk0) (Nat.zero_le _) H.size) (cwV 0 hts gX3_begin_X3_fetchByte rfl rfl rfl (by decide +kernel) ⟨Nat.le_of_ble_eq_true rfl, Nat.le_of_ble_eq_true rfl⟩) (hw_preV hP hD hS hA hk [0, 1, 2] (by decide) rfl (ci := 2) (q0 := 0) rfl rfl) rfl rfl hl.1 rfl (lv_room (Nat.le_of_ble_eq_true rfl)) dX3_begin_25 ⟨Nat.le_of_ble_eq_true rfl, Nat.le_of_ble_eq_true rfl⟩) hP hD hS hA [0, 1, 2] [] [0, 1, 2] rfl rfl (by decide) (by decide) (by decide) (fun _ => rfl) (fun u_25 H locs hw hP hD hS => ?_)
  have hP : va_P (dC, dI) vwCl [(hrd, .inr (2, [.ref hs, .ref hb0, .int (nI a), .long ((sp_bi k f (((sp_vo k f 0 255).toInt64) <<< ((16 : Int32).toInt64 &&& 63)) 0).1), .int ((sp_bi k f (((sp_vo k f 0 255).toInt64) <<< ((16 : Int32).toInt64 &&& 63)) 0).2.1), .int (nI ((sp_bi k f (((sp_vo k f 0 255).toInt64) <<< ((16 : Int32).toInt64 &&& 63)) 0).2.2))])), (hb0, .inr (1, [.ref hba, .int (nI k)])), (hba, .inl (cI, 4096, .inl f))] H := hP
  have hD : va_D A [(hrd, .inr (2, [.ref hs, .ref hb0, .int (nI a), .long ((sp_bi k f (((sp_vo k f 0 255).toInt64) <<< ((16 : Int32).toInt64 &&& 63)) 0).1), .int ((sp_bi k f (((sp_vo k f 0 255).toInt64) <<< ((16 : Int32).toInt64 &&& 63)) 0).2.1), .int (nI ((sp_bi k f (((sp_vo k f 0 255).toInt64) <<< ((16 : Int32).toInt64 &&& 63)) 0).2.2))])), (hb0, .inr (1, [.ref hba, .int (nI k)])), (hba, .inl (cI, 4096, .inl f))] := hD
  refine lv_aload_n hx hb dX3_begin_28 rfl (lv_at hl 0 rfl) ?_
  refine lv_aload_n hx hb dX3_begin_29 rfl (lv_at hl 0 rfl) ?_
  refine va_get (D := (dC, dI)) (ci := 2) (v := .long ((sp_bi k f (((sp_vo k f 0 255).toInt64) <<< ((16 : Int32).toInt64 &&& 63)) 0).1)) (C := RX3) (T := TX3) (N := 6) hx hb hts hiX3 hown hK hP 0 rfl rfl 3 (by decide) (hts (.fieldLink RX3 21 "RefineRegions$Reader" "code" "J") (by decide +kernel)) (fun _ h9 => h9) rfl dX3_begin_30 ?_
  refine lv_bipush (v := 7) hx hb dX3_begin_33 (by decide) ?_
  refine lv_lshl (v := ((sp_bi k f (((sp_vo k f 0 255).toInt64) <<< ((16 : Int32).toInt64 &&& 63)) 0).1) <<< ((7 : Int32).toInt64 &&& 63)) hx hb dX3_begin_35 rfl ?_
  refine lv_ldc2 (v := 4294967295) hx hb hown (hts (.constantLong RX3 44 (4294967295)) (by decide +kernel)) dX3_begin_36 ?_
  refine lv_land hx hb dX3_begin_39 ?_
  refine va_put (D := (dC, dI)) (ci := 2) (v := .long ((((sp_bi k f (((sp_vo k f 0 255).toInt64) <<< ((16 : Int32).toInt64 &&& 63)) 0).1) <<< ((7 : Int32).toInt64 &&& 63)) &&& 4294967295)) (ty := .long) (C := RX3) (T := TX3) (N := 6) hx hb hts hiX3 tyX3 tyX3_ok nmX3 hown hK hP hD hS 0 rfl rfl 3 (by decide) (hts (.fieldLink RX3 21 "RefineRegions$Reader" "code" "J") (by decide +kernel)) (fun _ h9 => h9) rfl (by decide +kernel) rfl rfl (Nat.le_of_ble_eq_true rfl) dX3_begin_40 (fun H locs hP hD hS => ?_)
  have hP : va_P (dC, dI) vwCl [(hrd, .inr (2, [.ref hs, .ref hb0, .int (nI a), .long ((((sp_bi k f (((sp_vo k f 0 255).toInt64) <<< ((16 : Int32).toInt64 &&& 63)) 0).1) <<< ((7 : Int32).toInt64 &&& 63)) &&& 4294967295), .int ((sp_bi k f (((sp_vo k f 0 255).toInt64) <<< ((16 : Int32).toInt64 &&& 63)) 0).2.1), .int (nI ((sp_bi k f (((sp_vo k f 0 255).toInt64) <<< ((16 : Int32).toInt64 &&& 63)) 0).2.2))])), (hb0, .inr (1, [.ref hba, .int (nI k)])), (hba, .inl (cI, 4096, .inl f))] H := hP
  have hD : va_D A [(hrd, .inr (2, [.ref hs, .ref hb0, .int (nI a), .long ((((sp_bi k f (((sp_vo k f 0 255).toInt64) <<< ((16 : Int32).toInt64 &&& 63)) 0).1) <<< ((7 : Int32).toInt64 &&& 63)) &&& 4294967295), .int ((sp_bi k f (((sp_vo k f 0 255).toInt64) <<< ((16 : Int32).toInt64 &&& 63)) 0).2.1), .int (nI ((sp_bi k f (((sp_vo k f 0 255).toInt64) <<< ((16 : Int32).toInt64 &&& 63)) 0).2.2))])), (hb0, .inr (1, [.ref hba, .int (nI k)])), (hba, .inl (cI, 4096, .inl f))] := hD
  refine lv_aload_n hx hb dX3_begin_43 rfl (lv_at hl 0 rfl) ?_
  refine lv_dup hx hb dX3_begin_44 rfl ?_
  refine va_get (D := (dC, dI)) (ci := 2) (v := .int ((sp_bi k f (((sp_vo k f 0 255).toInt64) <<< ((16 : Int32).toInt64 &&& 63)) 0).2.1)) (C := RX3) (T := TX3) (N := 6) hx hb hts hiX3 hown hK hP 0 rfl rfl 4 (by decide) (hts (.fieldLink RX3 25 "RefineRegions$Reader" "left" "I") (by decide +kernel)) (fun _ h9 => h9) rfl dX3_begin_45 ?_
  refine lv_bipush (v := 7) hx hb dX3_begin_48 (by decide) ?_
  refine lv_isub hx hb dX3_begin_50 ?_
  refine va_put (D := (dC, dI)) (ci := 2) (v := .int (((sp_bi k f (((sp_vo k f 0 255).toInt64) <<< ((16 : Int32).toInt64 &&& 63)) 0).2.1) - 7)) (ty := .int) (C := RX3) (T := TX3) (N := 6) hx hb hts hiX3 tyX3 tyX3_ok nmX3 hown hK hP hD hS 0 rfl rfl 4 (by decide) (hts (.fieldLink RX3 25 "RefineRegions$Reader" "left" "I") (by decide +kernel)) (fun _ h9 => h9) rfl (by decide +kernel) rfl rfl (Nat.le_of_ble_eq_true rfl) dX3_begin_51 (fun H locs hP hD hS => ?_)
  have hP : va_P (dC, dI) vwCl [(hrd, .inr (2, [.ref hs, .ref hb0, .int (nI a), .long ((((sp_bi k f (((sp_vo k f 0 255).toInt64) <<< ((16 : Int32).toInt64 &&& 63)) 0).1) <<< ((7 : Int32).toInt64 &&& 63)) &&& 4294967295), .int (((sp_bi k f (((sp_vo k f 0 255).toInt64) <<< ((16 : Int32).toInt64 &&& 63)) 0).2.1) - 7), .int (nI ((sp_bi k f (((sp_vo k f 0 255).toInt64) <<< ((16 : Int32).toInt64 &&& 63)) 0).2.2))])), (hb0, .inr (1, [.ref hba, .int (nI k)])), (hba, .inl (cI, 4096, .inl f))] H := hP
  have hD : va_D A [(hrd, .inr (2, [.ref hs, .ref hb0, .int (nI a), .long ((((sp_bi k f (((sp_vo k f 0 255).toInt64) <<< ((16 : Int32).toInt64 &&& 63)) 0).1) <<< ((7 : Int32).toInt64 &&& 63)) &&& 4294967295), .int (((sp_bi k f (((sp_vo k f 0 255).toInt64) <<< ((16 : Int32).toInt64 &&& 63)) 0).2.1) - 7), .int (nI ((sp_bi k f (((sp_vo k f 0 255).toInt64) <<< ((16 : Int32).toInt64 &&& 63)) 0).2.2))])), (hb0, .inr (1, [.ref hba, .int (nI k)])), (hba, .inl (cI, 4096, .inl f))] := hD
  refine lv_aload_n hx hb dX3_begin_54 rfl (lv_at hl 0 rfl) ?_
  refine lv_ldc (v := 32768) hx hb hown (hts (.constant RX3 16 (32768)) (by decide +kernel)) dX3_begin_55 ?_
  refine va_put (D := (dC, dI)) (ci := 2) (v := .int 32768) (ty := .int) (C := RX3) (T := TX3) (N := 6) hx hb hts hiX3 tyX3 tyX3_ok nmX3 hown hK hP hD hS 0 rfl rfl 2 (by decide) (hts (.fieldLink RX3 17 "RefineRegions$Reader" "interval" "I") (by decide +kernel)) (fun _ h9 => h9) rfl (by decide +kernel) rfl rfl (Nat.le_of_ble_eq_true rfl) dX3_begin_57 (fun H locs hP hD hS => ?_)
  have hP : va_P (dC, dI) vwCl [(hrd, .inr (2, [.ref hs, .ref hb0, .int 32768, .long ((((sp_bi k f (((sp_vo k f 0 255).toInt64) <<< ((16 : Int32).toInt64 &&& 63)) 0).1) <<< ((7 : Int32).toInt64 &&& 63)) &&& 4294967295), .int (((sp_bi k f (((sp_vo k f 0 255).toInt64) <<< ((16 : Int32).toInt64 &&& 63)) 0).2.1) - 7), .int (nI ((sp_bi k f (((sp_vo k f 0 255).toInt64) <<< ((16 : Int32).toInt64 &&& 63)) 0).2.2))])), (hb0, .inr (1, [.ref hba, .int (nI k)])), (hba, .inl (cI, 4096, .inl f))] H := hP
  have hD : va_D A [(hrd, .inr (2, [.ref hs, .ref hb0, .int 32768, .long ((((sp_bi k f (((sp_vo k f 0 255).toInt64) <<< ((16 : Int32).toInt64 &&& 63)) 0).1) <<< ((7 : Int32).toInt64 &&& 63)) &&& 4294967295), .int (((sp_bi k f (((sp_vo k f 0 255).toInt64) <<< ((16 : Int32).toInt64 &&& 63)) 0).2.1) - 7), .int (nI ((sp_bi k f (((sp_vo k f 0 255).toInt64) <<< ((16 : Int32).toInt64 &&& 63)) 0).2.2))])), (hb0, .inr (1, [.ref hba, .int (nI k)])), (hba, .inl (cI, 4096, .inl f))] := hD
  have hP9 := hP
  have hD9 := hD
  exact W.vret hx hb hr (fun t ht hW => ⟨⟨(), rfl, trivial, by rw [ht]; exact hP9, va_K.moved hW.alike hK, hD9⟩, hS.F ht⟩) hS.2.2 dX3_begin_60

set_option maxHeartbeats 4000000 in
set_option maxRecDepth 100000 in
/-- Reader.pass(context, _) -/
theorem c_X3_pass (l : Launch) (dC : Nat → ClassId) (dI : Nat → Nat → Nat) (cI cZ cJ : ClassId) (hrd : Nat) (hs : Nat) (hb0 : Nat) (hba : Nat) (k : Nat) (f : Nat → Int32) (has : Nat) (S : Nat → Nat) (a : Nat) (c : Int64) (t : Int32) (b : Nat) (n : Nat) (bit : Int32) (hk0 : k ≤ 4096) (hb1 : b ≤ k) (ha0 : 32768 ≤ a) (ha1 : a < 65536) (hS94 : ∀ j, S j < 94) (hn0 : n < 8192) (sz : Nat) : Met l yX3_pass wsX3_pass ({ frames := 3, cells := 0, slots := 0, locals := 65 }) (hw_Pre (dC, dI) vwCl (ty3 cI cZ cJ) [(hrd, .inr (2, [.ref hs, .ref hb0, .int (nI a), .long c, .int t, .int (nI b)])), (hs, .inr (3, [.ref has])), (has, .inl (cI, 8192, .inl (fun j => nI (S j)))), (hb0, .inr (1, [.ref hba, .int (nI k)])), (hba, .inl (cI, 4096, .inl f))] sz [.ref hrd, .int (nI n), .int bit]) (va_Qi (fun (r : Int32) (_ : Unit) => r = nI (sp_rb k f (a, c, t, b) S n).1) (hw_at (dC, dI) vwCl (ty3 cI cZ cJ) (fun _ : Unit => [(hrd, .inr (2, [.ref hs, .ref hb0, .int (nI ((sp_rb k f (a, c, t, b) S n).2.1.1)), .long ((sp_rb k f (a, c, t, b) S n).2.1.2.1), .int ((sp_rb k f (a, c, t, b) S n).2.1.2.2.1), .int (nI ((sp_rb k f (a, c, t, b) S n).2.1.2.2.2))])), (hs, .inr (3, [.ref has])), (has, .inl (cI, 8192, .inl (fun j => nI (((sp_rb k f (a, c, t, b) S n).2.2) j)))), (hb0, .inr (1, [.ref hba, .int (nI k)])), (hba, .inl (cI, 4096, .inl f))]) (va_A [(hrd, .inr (2, [.ref hs, .ref hb0, .int (nI a), .long c, .int t, .int (nI b)])), (hs, .inr (3, [.ref has])), (has, .inl (cI, 8192, .inl (fun j => nI (S j)))), (hb0, .inr (1, [.ref hba, .int (nI k)])), (hba, .inl (cI, 4096, .inl f))] sz)) (va_A [(hrd, .inr (2, [.ref hs, .ref hb0, .int (nI a), .long c, .int t, .int (nI b)])), (hs, .inr (3, [.ref has])), (has, .inl (cI, 8192, .inl (fun j => nI (S j)))), (hb0, .inr (1, [.ref hba, .int (nI k)])), (hba, .inl (cI, 4096, .inl f))] sz)) 0 0 (va_A [(hrd, .inr (2, [.ref hs, .ref hb0, .int (nI a), .long c, .int t, .int (nI b)])), (hs, .inr (3, [.ref has])), (has, .inl (cI, 8192, .inl (fun j => nI (S j)))), (hb0, .inr (1, [.ref hba, .int (nI k)])), (hba, .inl (cI, 4096, .inl f))] sz) := by
  refine Met.ofW (cc := cX3_pass) (maxL := 8) (ret := (some .int)) (by decide) rfl ?_
  intro pg ev s m args below meth cd s₁ B hml hv
  obtain ⟨rfl, hsz, hP, hK, hN, hZ, hD0⟩ := hv
  have hx := B.exec
  have hb := B.bytes
  have hr := B.returns
  have hts := atoms_spec (ws := wsX3_pass) B.pre
  have hown : s.vm.findClass RX3 = some m.cls := findClass_of_methodNamed B.named
  have hlocks := B.notSynchronized
  subst hsz
  have hD := hD0.self (sz := s.heap.size)
  generalize hAe : va_A [(hrd, .inr (2, [.ref hs, .ref hb0, .int (nI a), .long c, .int t, .int (nI b)])), (hs, .inr (3, [.ref has])), (has, .inl (cI, 8192, .inl (fun j => nI (S j)))), (hb0, .inr (1, [.ref hba, .int (nI k)])), (hba, .inl (cI, 4096, .inl f))] s.heap.size = A at hD hZ ⊢
  have hA : ∀ q : Nat, s.heap.size ≤ q → A q := fun q h => by rw [← hAe]; exact Or.inr h
  have hS : va_S A s.heap s.heap [] := va_S.rf
  have hk : hw_K (dC, dI) vwCl (ty3 cI cZ cJ) A s := ⟨hK, hN, hZ⟩
  have hiX3 : ∀ w ∈ u_ws RX3 TX3 6, w ∈ wsX3_pass := by decide +kernel
  obtain ⟨g1, g2⟩ := sp_q_in hS94 n
  have g4 : S n % 2 < 2 := Nat.mod_lt _ (by decide)
  have hl := lv_entry ([.ref hrd, .int (nI n), .int bit]) (n := 8) (Nat.le_of_ble_eq_true rfl)
  rw [lg_entry_eq]
  generalize (lg_sl ([.ref hrd, .int (nI n), .int bit]) ++ List.replicate (8 - (lg_sl ([.ref hrd, .int (nI n), .int bit])).length) Slot.unset).toArray = ls at hl ⊢
  have hl : lv_has ls 8 [(0, .ref hrd), (1, .int (nI n)), (2, .int bit)] := hl
  refine lv_aload_n hx hb dX3_pass_0 rfl (lv_at hl 0 rfl) ?_
  refine va_get (D := (dC, dI)) (ci := 2) (v := .ref hs) (C := RX3) (T := TX3) (N := 6) hx hb hts hiX3 hown hK hP 0 rfl rfl 0 (by decide) (hts (.fieldLink RX3 10 "RefineRegions$Reader" "states" "LRefineRegions$States;") (by decide +kernel)) (fun _ h9 => h9) rfl dX3_pass_1 ?_
  refine lv_iload_n hx hb dX3_pass_4 rfl (lv_at hl 1 rfl) ?_
  refine hw_callSe (va_runVN (As := [.int (nI n)]) (rest := []) ⟨hx, hb, hml, hown, hts⟩ (c_X4_shareOf l dC dI cI cZ cJ hs has S n (hS94) (hn0)) ⟨va_cnB 1 hts gX3_pass_X4_shareOf_n46 rfl rfl rfl (nw_X3_46 hN) (hts (.initialized RX4) (by decide +kernel)) (by decide +kernel) ⟨Nat.le_of_ble_eq_true rfl, Nat.le_of_ble_eq_true rfl⟩, hts (.instanceMethod yX4_shareOf) (by decide +kernel), hts (.selects RX4 yX4_shareOf yX4_shareOf) (by decide +kernel)⟩ (hw_roV hP hS hk [1, 2] rfl (ci := 3) (q0 := 1) rfl rfl) rfl rfl hl.1 rfl (lv_room (Nat.le_of_ble_eq_true rfl)) dX3_pass_5 ⟨Nat.le_of_ble_eq_true rfl, Nat.le_of_ble_eq_true rfl⟩) ?_
  refine lv_istore_n (lv' := [(3, .int (nI (sp_q S n))), (0, .ref hrd), (1, .int (nI n)), (2, .int bit)]) hx hb dX3_pass_8 rfl hl (by decide) rfl (fun ls hl => ?_)
  refine lv_aload_n hx hb dX3_pass_9 rfl (lv_at hl 1 rfl) ?_
  refine va_get (D := (dC, dI)) (ci := 2) (v := .ref hs) (C := RX3) (T := TX3) (N := 6) hx hb hts hiX3 hown hK hP 0 rfl rfl 0 (by decide) (hts (.fieldLink RX3 10 "RefineRegions$Reader" "states" "LRefineRegions$States;") (by decide +kernel)) (fun _ h9 => h9) rfl dX3_pass_10 ?_
  refine lv_iload_n hx hb dX3_pass_13 rfl (lv_at hl 2 rfl) ?_
  refine hw_callSe (va_runVN (As := [.int (nI n)]) (rest := []) ⟨hx, hb, hml, hown, hts⟩ (c_X4_likelyOf l dC dI cI cZ cJ hs has S n (hS94) (hn0)) ⟨va_cnB 1 hts gX3_pass_X4_likelyOf_n50 rfl rfl rfl (nw_X3_50 hN) (hts (.initialized RX4) (by decide +kernel)) (by decide +kernel) ⟨Nat.le_of_ble_eq_true rfl, Nat.le_of_ble_eq_true rfl⟩, hts (.instanceMethod yX4_likelyOf) (by decide +kernel), hts (.selects RX4 yX4_likelyOf yX4_likelyOf) (by decide +kernel)⟩ (hw_roV hP hS hk [1, 2] rfl (ci := 3) (q0 := 1) rfl rfl) rfl rfl hl.1 rfl (lv_room (Nat.le_of_ble_eq_true rfl)) dX3_pass_14 ⟨Nat.le_of_ble_eq_true rfl, Nat.le_of_ble_eq_true rfl⟩) ?_
  refine lv_istore (lv' := [(4, .int (nI (S n % 2))), (3, .int (nI (sp_q S n))), (0, .ref hrd), (1, .int (nI n)), (2, .int bit)]) hx hb dX3_pass_17 hl (by decide) rfl (fun ls hl => ?_)
  refine lv_iload_n hx hb dX3_pass_19 rfl (lv_at hl 1 rfl) ?_
  refine lv_i2l (v := (nI (sp_q S n)).toInt64) hx hb dX3_pass_20 rfl ?_
  refine lv_bipush (v := 16) hx hb dX3_pass_21 (by decide) ?_
  refine lv_lshl (v := ((nI (sp_q S n)).toInt64) <<< ((16 : Int32).toInt64 &&& 63)) hx hb dX3_pass_23 rfl ?_
  refine hw_l (y := lN (sp_q S n * 65536)) (sp_l16 (by omega)) ?_
  refine lv_lstore (lv' := [(5, .long (lN (sp_q S n * 65536))), (4, .int (nI (S n % 2))), (3, .int (nI (sp_q S n))), (0, .ref hrd), (1, .int (nI n)), (2, .int bit)]) hx hb dX3_pass_24 hl (by decide) rfl (fun ls hl => ?_)
  refine lv_aload_n hx hb dX3_pass_26 rfl (lv_at hl 3 rfl) ?_
  refine lv_dup hx hb dX3_pass_27 rfl ?_
  refine va_get (D := (dC, dI)) (ci := 2) (v := .int (nI a)) (C := RX3) (T := TX3) (N := 6) hx hb hts hiX3 hown hK hP 0 rfl rfl 2 (by decide) (hts (.fieldLink RX3 17 "RefineRegions$Reader" "interval" "I") (by decide +kernel)) (fun _ h9 => h9) rfl dX3_pass_28 ?_
  refine lv_iload_n hx hb dX3_pass_31 rfl (lv_at hl 2 rfl) ?_
  refine lv_isub hx hb dX3_pass_32 ?_
  refine hw_i (y := nI (a - sp_q S n)) (pk_sub (by omega)) ?_
  refine va_put (D := (dC, dI)) (ci := 2) (v := .int (nI (a - sp_q S n))) (ty := .int) (C := RX3) (T := TX3) (N := 6) hx hb hts hiX3 tyX3 tyX3_ok nmX3 hown hK hP hD hS 0 rfl rfl 2 (by decide) (hts (.fieldLink RX3 17 "RefineRegions$Reader" "interval" "I") (by decide +kernel)) (fun _ h9 => h9) rfl (by decide +kernel) rfl rfl (Nat.le_of_ble_eq_true rfl) dX3_pass_33 (fun H locs hP hD hS => ?_)
  have hP : va_P (dC, dI) vwCl [(hrd, .inr (2, [.ref hs, .ref hb0, .int (nI (a - sp_q S n)), .long c, .int t, .int (nI b)])), (hs, .inr (3, [.ref has])), (has, .inl (cI, 8192, .inl (fun j => nI (S j)))), (hb0, .inr (1, [.ref hba, .int (nI k)])), (hba, .inl (cI, 4096, .inl f))] H := hP
  have hD : va_D A [(hrd, .inr (2, [.ref hs, .ref hb0, .int (nI (a - sp_q S n)), .long c, .int t, .int (nI b)])), (hs, .inr (3, [.ref has])), (has, .inl (cI, 8192, .inl (fun j => nI (S j)))), (hb0, .inr (1, [.ref hba, .int (nI k)])), (hba, .inl (cI, 4096, .inl f))] := hD
  refine lv_aload_n hx hb dX3_pass_36 rfl (lv_at hl 3 rfl) ?_
  refine va_get (D := (dC, dI)) (ci := 2) (v := .long c) (C := RX3) (T := TX3) (N := 6) hx hb hts hiX3 hown hK hP 0 rfl rfl 3 (by decide) (hts (.fieldLink RX3 21 "RefineRegions$Reader" "code" "J") (by decide +kernel)) (fun _ h9 => h9) rfl dX3_pass_37 ?_
  refine lv_lload hx hb dX3_pass_40 (lv_at hl 0 rfl) ?_
  refine W.lcmp hx hb dX3_pass_42 ?_
  refine lv_if_ge (tgt := 69) hx hb dX3_pass_43 (by decide) (fun c_43 => ?_) (fun c_43 => ?_)
  · refine lv_aload_n hx hb dX3_pass_69 rfl (lv_at hl 3 rfl) ?_
    refine lv_dup hx hb dX3_pass_70 rfl ?_
    refine va_get (D := (dC, dI)) (ci := 2) (v := .long c) (C := RX3) (T := TX3) (N := 6) hx hb hts hiX3 hown hK hP 0 rfl rfl 3 (by decide) (hts (.fieldLink RX3 21 "RefineRegions$Reader" "code" "J") (by decide +kernel)) (fun _ h9 => h9) rfl dX3_pass_71 ?_
    refine lv_lload hx hb dX3_pass_74 (lv_at hl 0 rfl) ?_
    refine lv_lsub hx hb dX3_pass_76 ?_
    refine va_put (D := (dC, dI)) (ci := 2) (v := .long (c - (lN (sp_q S n * 65536)))) (ty := .long) (C := RX3) (T := TX3) (N := 6) hx hb hts hiX3 tyX3 tyX3_ok nmX3 hown hK hP hD hS 0 rfl rfl 3 (by decide) (hts (.fieldLink RX3 21 "RefineRegions$Reader" "code" "J") (by decide +kernel)) (fun _ h9 => h9) rfl (by decide +kernel) rfl rfl (Nat.le_of_ble_eq_true rfl) dX3_pass_77 (fun H locs hP hD hS => ?_)
    have hP : va_P (dC, dI) vwCl [(hrd, .inr (2, [.ref hs, .ref hb0, .int (nI (a - sp_q S n)), .long (c - (lN (sp_q S n * 65536))), .int t, .int (nI b)])), (hs, .inr (3, [.ref has])), (has, .inl (cI, 8192, .inl (fun j => nI (S j)))), (hb0, .inr (1, [.ref hba, .int (nI k)])), (hba, .inl (cI, 4096, .inl f))] H := hP
    have hD : va_D A [(hrd, .inr (2, [.ref hs, .ref hb0, .int (nI (a - sp_q S n)), .long (c - (lN (sp_q S n * 65536))), .int t, .int (nI b)])), (hs, .inr (3, [.ref has])), (has, .inl (cI, 8192, .inl (fun j => nI (S j)))), (hb0, .inr (1, [.ref hba, .int (nI k)])), (hba, .inl (cI, 4096, .inl f))] := hD
    refine lv_aload_n hx hb dX3_pass_80 rfl (lv_at hl 3 rfl) ?_
    refine va_get (D := (dC, dI)) (ci := 2) (v := .int (nI (a - sp_q S n))) (C := RX3) (T := TX3) (N := 6) hx hb hts hiX3 hown hK hP 0 rfl rfl 2 (by decide) (hts (.fieldLink RX3 17 "RefineRegions$Reader" "interval" "I") (by decide +kernel)) (fun _ h9 => h9) rfl dX3_pass_81 ?_
    refine lv_ldc (v := 32768) hx hb hown (hts (.constant RX3 16 (32768)) (by decide +kernel)) dX3_pass_84 ?_
    refine lv_icmp_lt (tgt := 92) hx hb dX3_pass_86 (by decide) (fun c_86 => ?_) (fun c_86 => ?_)
    · have hlt9 : a - sp_q S n < 32768 := by rw [show (32768 : Int32) = nI 32768 from rfl, nI_ltI (by omega) (by omega)] at c_86; exact c_86
      refine lv_aload_n hx hb dX3_pass_92 rfl (lv_at hl 3 rfl) ?_
      refine va_get (D := (dC, dI)) (ci := 2) (v := .int (nI (a - sp_q S n))) (C := RX3) (T := TX3) (N := 6) hx hb hts hiX3 hown hK hP 0 rfl rfl 2 (by decide) (hts (.fieldLink RX3 17 "RefineRegions$Reader" "interval" "I") (by decide +kernel)) (fun _ h9 => h9) rfl dX3_pass_93 ?_
      refine lv_iload_n hx hb dX3_pass_96 rfl (lv_at hl 2 rfl) ?_
      refine lv_icmp_lt (tgt := 104) hx hb dX3_pass_97 (by decide) (fun c_97 => ?_) (fun c_97 => ?_)
      · refine lv_iconst (v := 0) hx hb dX3_pass_104 (by decide) ?_
        refine lv_istore (lv' := [(7, .int 0), (5, .long (lN (sp_q S n * 65536))), (4, .int (nI (S n % 2))), (3, .int (nI (sp_q S n))), (0, .ref hrd), (1, .int (nI n)), (2, .int bit)]) hx hb dX3_pass_105 hl (by decide) rfl (fun ls hl => ?_)
        refine lv_aload_n hx hb dX3_pass_107 rfl (lv_at hl 4 rfl) ?_
        refine va_get (D := (dC, dI)) (ci := 2) (v := .ref hs) (C := RX3) (T := TX3) (N := 6) hx hb hts hiX3 hown hK hP 0 rfl rfl 0 (by decide) (hts (.fieldLink RX3 10 "RefineRegions$Reader" "states" "LRefineRegions$States;") (by decide +kernel)) (fun _ h9 => h9) rfl dX3_pass_108 ?_
        refine lv_iload_n hx hb dX3_pass_111 rfl (lv_at hl 5 rfl) ?_
        refine lv_iload hx hb dX3_pass_112 (lv_at hl 0 rfl) ?_
        refine hw_callv (wr := [(hrd, .inr (2, [.ref hs, .ref hb0, .int (nI (a - sp_q S n)), .long (c - (lN (sp_q S n * 65536))), .int t, .int (nI b)])), (hb0, .inr (1, [.ref hba, .int (nI k)])), (hba, .inl (cI, 4096, .inl f))]) (w2 := fun _ : Unit => [(hrd, .inr (2, [.ref hs, .ref hb0, .int (nI (a - sp_q S n)), .long (c - (lN (sp_q S n * 65536))), .int t, .int (nI b)])), (hs, .inr (3, [.ref has])), (has, .inl (cI, 8192, .inl (fun j => nI ((sp_up S n (sp_nx (S n) false)) j)))), (hb0, .inr (1, [.ref hba, .int (nI k)])), (hba, .inl (cI, 4096, .inl f))]) (va_runVN (As := [.int (nI n), .int 0]) (rest := []) ⟨hx, hb, hml, hown, hts⟩ (c_X4_advance_false l dC dI cI cZ cJ hs has S n (hS94) (hn0) H.size) ⟨va_cnB 2 hts gX3_pass_X4_advance_n53 rfl rfl rfl (nw_X3_53 hN) (hts (.initialized RX4) (by decide +kernel)) (by decide +kernel) ⟨Nat.le_of_ble_eq_true rfl, Nat.le_of_ble_eq_true rfl⟩, hts (.instanceMethod yX4_advance) (by decide +kernel), hts (.selects RX4 yX4_advance yX4_advance) (by decide +kernel)⟩ (hw_preV hP hD hS hA hk [1, 2] (by decide) rfl (ci := 3) (q0 := 1) rfl rfl) rfl rfl hl.1 rfl (lv_room (Nat.le_of_ble_eq_true rfl)) dX3_pass_114 ⟨Nat.le_of_ble_eq_true rfl, Nat.le_of_ble_eq_true rfl⟩) hP hD hS hA [1, 2] [0, 3, 4] [0, 3, 4, 1, 2] rfl rfl (by decide) (by decide) (by decide) (fun _ => rfl) (fun u_114 H locs hw hP hD hS => ?_)
        have hP : va_P (dC, dI) vwCl [(hrd, .inr (2, [.ref hs, .ref hb0, .int (nI (a - sp_q S n)), .long (c - (lN (sp_q S n * 65536))), .int t, .int (nI b)])), (hs, .inr (3, [.ref has])), (has, .inl (cI, 8192, .inl (fun j => nI ((sp_up S n (sp_nx (S n) false)) j)))), (hb0, .inr (1, [.ref hba, .int (nI k)])), (hba, .inl (cI, 4096, .inl f))] H := hP
        have hD : va_D A [(hrd, .inr (2, [.ref hs, .ref hb0, .int (nI (a - sp_q S n)), .long (c - (lN (sp_q S n * 65536))), .int t, .int (nI b)])), (hs, .inr (3, [.ref has])), (has, .inl (cI, 8192, .inl (fun j => nI ((sp_up S n (sp_nx (S n) false)) j)))), (hb0, .inr (1, [.ref hba, .int (nI k)])), (hba, .inl (cI, 4096, .inl f))] := hD
        refine lv_aload_n hx hb dX3_pass_117 rfl (lv_at hl 4 rfl) ?_
        refine hw_callv (wr := [(hs, .inr (3, [.ref has])), (has, .inl (cI, 8192, .inl (fun j => nI ((sp_up S n (sp_nx (S n) false)) j))))]) (w2 := fun _ : Unit => [(hrd, .inr (2, [.ref hs, .ref hb0, .int (nI ((sp_rr k f 15 ((a - sp_q S n), c - (lN (sp_q S n * 65536)), t, b)).1)), .long ((sp_rr k f 15 ((a - sp_q S n), c - (lN (sp_q S n * 65536)), t, b)).2.1), .int ((sp_rr k f 15 ((a - sp_q S n), c - (lN (sp_q S n * 65536)), t, b)).2.2.1), .int (nI ((sp_rr k f 15 ((a - sp_q S n), c - (lN (sp_q S n * 65536)), t, b)).2.2.2))])), (hs, .inr (3, [.ref has])), (has, .inl (cI, 8192, .inl (fun j => nI ((sp_up S n (sp_nx (S n) false)) j)))), (hb0, .inr (1, [.ref hba, .int (nI k)])), (hba, .inl (cI, 4096, .inl f))]) (va_runV (As := []) (rest := []) ⟨hx, hb, hml, hown, hts⟩ (c_X3_renew l dC dI cI cZ cJ hrd hs hb0 hba k f (a - sp_q S n) (c - (lN (sp_q S n * 65536))) t b (hk0) (hb1) (hlt9) H.size) (cwV 0 hts gX3_pass_X3_renew rfl rfl rfl (by decide +kernel) ⟨Nat.le_of_ble_eq_true rfl, Nat.le_of_ble_eq_true rfl⟩) (hw_preV hP hD hS hA hk [0, 3, 4] (by decide) rfl (ci := 2) (q0 := 0) rfl rfl) rfl rfl hl.1 rfl (lv_room (Nat.le_of_ble_eq_true rfl)) dX3_pass_118 ⟨Nat.le_of_ble_eq_true rfl, Nat.le_of_ble_eq_true rfl⟩) hP hD hS hA [0, 3, 4] [1, 2] [2, 0, 1, 3, 4] rfl rfl (by decide) (by decide) (by decide) (fun _ => rfl) (fun u_118 H locs hw hP hD hS => ?_)
        have hP : va_P (dC, dI) vwCl [(hrd, .inr (2, [.ref hs, .ref hb0, .int (nI ((sp_rr k f 15 ((a - sp_q S n), c - (lN (sp_q S n * 65536)), t, b)).1)), .long ((sp_rr k f 15 ((a - sp_q S n), c - (lN (sp_q S n * 65536)), t, b)).2.1), .int ((sp_rr k f 15 ((a - sp_q S n), c - (lN (sp_q S n * 65536)), t, b)).2.2.1), .int (nI ((sp_rr k f 15 ((a - sp_q S n), c - (lN (sp_q S n * 65536)), t, b)).2.2.2))])), (hs, .inr (3, [.ref has])), (has, .inl (cI, 8192, .inl (fun j => nI ((sp_up S n (sp_nx (S n) false)) j)))), (hb0, .inr (1, [.ref hba, .int (nI k)])), (hba, .inl (cI, 4096, .inl f))] H := hP
        have hD : va_D A [(hrd, .inr (2, [.ref hs, .ref hb0, .int (nI ((sp_rr k f 15 ((a - sp_q S n), c - (lN (sp_q S n * 65536)), t, b)).1)), .long ((sp_rr k f 15 ((a - sp_q S n), c - (lN (sp_q S n * 65536)), t, b)).2.1), .int ((sp_rr k f 15 ((a - sp_q S n), c - (lN (sp_q S n * 65536)), t, b)).2.2.1), .int (nI ((sp_rr k f 15 ((a - sp_q S n), c - (lN (sp_q S n * 65536)), t, b)).2.2.2))])), (hs, .inr (3, [.ref has])), (has, .inl (cI, 8192, .inl (fun j => nI ((sp_up S n (sp_nx (S n) false)) j)))), (hb0, .inr (1, [.ref hba, .int (nI k)])), (hba, .inl (cI, 4096, .inl f))] := hD
        refine lv_iload hx hb dX3_pass_121 (lv_at hl 0 rfl) ?_
        refine lv_if_eq (tgt := 131) hx hb dX3_pass_123 (by decide) (fun _ => ?_) (fun c9 => absurd (by decide) c9)
        refine lv_iconst (v := 1) hx hb dX3_pass_131 (by decide) ?_
        refine lv_iload hx hb dX3_pass_132 (lv_at hl 2 rfl) ?_
        refine lv_isub hx hb dX3_pass_134 ?_
        refine hw_i (y := nI (1 - S n % 2)) (by rw [show (1 : Int32) = nI 1 from rfl]; exact pk_sub (by omega)) ?_
        have hP9 : va_P (dC, dI) vwCl ((fun _ : Unit => [(hrd, .inr (2, [.ref hs, .ref hb0, .int (nI ((sp_rb k f (a, c, t, b) S n).2.1.1)), .long ((sp_rb k f (a, c, t, b) S n).2.1.2.1), .int ((sp_rb k f (a, c, t, b) S n).2.1.2.2.1), .int (nI ((sp_rb k f (a, c, t, b) S n).2.1.2.2.2))])), (hs, .inr (3, [.ref has])), (has, .inl (cI, 8192, .inl (fun j => nI (((sp_rb k f (a, c, t, b) S n).2.2) j)))), (hb0, .inr (1, [.ref hba, .int (nI k)])), (hba, .inl (cI, 4096, .inl f))]) ()) H := by
          rw [sp_rb_4 (by rw [lg_cmp_ge] at c_43; exact Int64.not_lt.mpr c_43) (by rw [show (32768 : Int32) = nI 32768 from rfl, nI_ltI (by omega) (by omega)] at c_86; omega) (by rw [nI_ltI (by omega) (by omega)] at c_97; omega)]
          exact hP
        have hD9 : va_D A ((fun _ : Unit => [(hrd, .inr (2, [.ref hs, .ref hb0, .int (nI ((sp_rb k f (a, c, t, b) S n).2.1.1)), .long ((sp_rb k f (a, c, t, b) S n).2.1.2.1), .int ((sp_rb k f (a, c, t, b) S n).2.1.2.2.1), .int (nI ((sp_rb k f (a, c, t, b) S n).2.1.2.2.2))])), (hs, .inr (3, [.ref has])), (has, .inl (cI, 8192, .inl (fun j => nI (((sp_rb k f (a, c, t, b) S n).2.2) j)))), (hb0, .inr (1, [.ref hba, .int (nI k)])), (hba, .inl (cI, 4096, .inl f))]) ()) := by
          rw [sp_rb_4 (by rw [lg_cmp_ge] at c_43; exact Int64.not_lt.mpr c_43) (by rw [show (32768 : Int32) = nI 32768 from rfl, nI_ltI (by omega) (by omega)] at c_86; omega) (by rw [nI_ltI (by omega) (by omega)] at c_97; omega)]
          exact hD
        exact W.iret (v := nI (1 - S n % 2)) hx hb hr (fun t ht hW => ⟨⟨nI (1 - S n % 2), (), rfl, by rw [sp_rb_4 (by rw [lg_cmp_ge] at c_43; exact Int64.not_lt.mpr c_43) (by rw [show (32768 : Int32) = nI 32768 from rfl, nI_ltI (by omega) (by omega)] at c_86; omega) (by rw [nI_ltI (by omega) (by omega)] at c_97; omega)], by rw [ht]; exact hP9, va_K.moved hW.alike hK, hD9⟩, hS.F ht⟩) hS.2.2 dX3_pass_135
      · refine lv_iconst (v := 1) hx hb dX3_pass_100 (by decide) ?_
        refine lv_goto (tgt := 105) hx hb dX3_pass_101 (by decide) ?_
        refine lv_istore (lv' := [(7, .int 1), (5, .long (lN (sp_q S n * 65536))), (4, .int (nI (S n % 2))), (3, .int (nI (sp_q S n))), (0, .ref hrd), (1, .int (nI n)), (2, .int bit)]) hx hb dX3_pass_105 hl (by decide) rfl (fun ls hl => ?_)
        refine lv_aload_n hx hb dX3_pass_107 rfl (lv_at hl 4 rfl) ?_
        refine va_get (D := (dC, dI)) (ci := 2) (v := .ref hs) (C := RX3) (T := TX3) (N := 6) hx hb hts hiX3 hown hK hP 0 rfl rfl 0 (by decide) (hts (.fieldLink RX3 10 "RefineRegions$Reader" "states" "LRefineRegions$States;") (by decide +kernel)) (fun _ h9 => h9) rfl dX3_pass_108 ?_
        refine lv_iload_n hx hb dX3_pass_111 rfl (lv_at hl 5 rfl) ?_
        refine lv_iload hx hb dX3_pass_112 (lv_at hl 0 rfl) ?_
        refine hw_callv (wr := [(hrd, .inr (2, [.ref hs, .ref hb0, .int (nI (a - sp_q S n)), .long (c - (lN (sp_q S n * 65536))), .int t, .int (nI b)])), (hb0, .inr (1, [.ref hba, .int (nI k)])), (hba, .inl (cI, 4096, .inl f))]) (w2 := fun _ : Unit => [(hrd, .inr (2, [.ref hs, .ref hb0, .int (nI (a - sp_q S n)), .long (c - (lN (sp_q S n * 65536))), .int t, .int (nI b)])), (hs, .inr (3, [.ref has])), (has, .inl (cI, 8192, .inl (fun j => nI ((sp_up S n (sp_nx (S n) true)) j)))), (hb0, .inr (1, [.ref hba, .int (nI k)])), (hba, .inl (cI, 4096, .inl f))]) (va_runVN (As := [.int (nI n), .int 1]) (rest := []) ⟨hx, hb, hml, hown, hts⟩ (c_X4_advance_true l dC dI cI cZ cJ hs has S n (hS94) (hn0) H.size) ⟨va_cnB 2 hts gX3_pass_X4_advance_n53 rfl rfl rfl (nw_X3_53 hN) (hts (.initialized RX4) (by decide +kernel)) (by decide +kernel) ⟨Nat.le_of_ble_eq_true rfl, Nat.le_of_ble_eq_true rfl⟩, hts (.instanceMethod yX4_advance) (by decide +kernel), hts (.selects RX4 yX4_advance yX4_advance) (by decide +kernel)⟩ (hw_preV hP hD hS hA hk [1, 2] (by decide) rfl (ci := 3) (q0 := 1) rfl rfl) rfl rfl hl.1 rfl (lv_room (Nat.le_of_ble_eq_true rfl)) dX3_pass_114 ⟨Nat.le_of_ble_eq_true rfl, Nat.le_of_ble_eq_true rfl⟩) hP hD hS hA [1, 2] [0, 3, 4] [0, 3, 4, 1, 2] rfl rfl (by decide) (by decide) (by decide) (fun _ => rfl) (fun u_114_2 H locs hw hP hD hS => ?_)
        have hP : va_P (dC, dI) vwCl [(hrd, .inr (2, [.ref hs, .ref hb0, .int (nI (a - sp_q S n)), .long (c - (lN (sp_q S n * 65536))), .int t, .int (nI b)])), (hs, .inr (3, [.ref has])), (has, .inl (cI, 8192, .inl (fun j => nI ((sp_up S n (sp_nx (S n) true)) j)))), (hb0, .inr (1, [.ref hba, .int (nI k)])), (hba, .inl (cI, 4096, .inl f))] H := hP
        have hD : va_D A [(hrd, .inr (2, [.ref hs, .ref hb0, .int (nI (a - sp_q S n)), .long (c - (lN (sp_q S n * 65536))), .int t, .int (nI b)])), (hs, .inr (3, [.ref has])), (has, .inl (cI, 8192, .inl (fun j => nI ((sp_up S n (sp_nx (S n) true)) j)))), (hb0, .inr (1, [.ref hba, .int (nI k)])), (hba, .inl (cI, 4096, .inl f))] := hD
        refine lv_aload_n hx hb dX3_pass_117 rfl (lv_at hl 4 rfl) ?_
        refine hw_callv (wr := [(hs, .inr (3, [.ref has])), (has, .inl (cI, 8192, .inl (fun j => nI ((sp_up S n (sp_nx (S n) true)) j))))]) (w2 := fun _ : Unit => [(hrd, .inr (2, [.ref hs, .ref hb0, .int (nI ((sp_rr k f 15 ((a - sp_q S n), c - (lN (sp_q S n * 65536)), t, b)).1)), .long ((sp_rr k f 15 ((a - sp_q S n), c - (lN (sp_q S n * 65536)), t, b)).2.1), .int ((sp_rr k f 15 ((a - sp_q S n), c - (lN (sp_q S n * 65536)), t, b)).2.2.1), .int (nI ((sp_rr k f 15 ((a - sp_q S n), c - (lN (sp_q S n * 65536)), t, b)).2.2.2))])), (hs, .inr (3, [.ref has])), (has, .inl (cI, 8192, .inl (fun j => nI ((sp_up S n (sp_nx (S n) true)) j)))), (hb0, .inr (1, [.ref hba, .int (nI k)])), (hba, .inl (cI, 4096, .inl f))]) (va_runV (As := []) (rest := []) ⟨hx, hb, hml, hown, hts⟩ (c_X3_renew l dC dI cI cZ cJ hrd hs hb0 hba k f (a - sp_q S n) (c - (lN (sp_q S n * 65536))) t b (hk0) (hb1) (hlt9) H.size) (cwV 0 hts gX3_pass_X3_renew rfl rfl rfl (by decide +kernel) ⟨Nat.le_of_ble_eq_true rfl, Nat.le_of_ble_eq_true rfl⟩) (hw_preV hP hD hS hA hk [0, 3, 4] (by decide) rfl (ci := 2) (q0 := 0) rfl rfl) rfl rfl hl.1 rfl (lv_room (Nat.le_of_ble_eq_true rfl)) dX3_pass_118 ⟨Nat.le_of_ble_eq_true rfl, Nat.le_of_ble_eq_true rfl⟩) hP hD hS hA [0, 3, 4] [1, 2] [2, 0, 1, 3, 4] rfl rfl (by decide) (by decide) (by decide) (fun _ => rfl) (fun u_118_2 H locs hw hP hD hS => ?_)
        have hP : va_P (dC, dI) vwCl [(hrd, .inr (2, [.ref hs, .ref hb0, .int (nI ((sp_rr k f 15 ((a - sp_q S n), c - (lN (sp_q S n * 65536)), t, b)).1)), .long ((sp_rr k f 15 ((a - sp_q S n), c - (lN (sp_q S n * 65536)), t, b)).2.1), .int ((sp_rr k f 15 ((a - sp_q S n), c - (lN (sp_q S n * 65536)), t, b)).2.2.1), .int (nI ((sp_rr k f 15 ((a - sp_q S n), c - (lN (sp_q S n * 65536)), t, b)).2.2.2))])), (hs, .inr (3, [.ref has])), (has, .inl (cI, 8192, .inl (fun j => nI ((sp_up S n (sp_nx (S n) true)) j)))), (hb0, .inr (1, [.ref hba, .int (nI k)])), (hba, .inl (cI, 4096, .inl f))] H := hP
        have hD : va_D A [(hrd, .inr (2, [.ref hs, .ref hb0, .int (nI ((sp_rr k f 15 ((a - sp_q S n), c - (lN (sp_q S n * 65536)), t, b)).1)), .long ((sp_rr k f 15 ((a - sp_q S n), c - (lN (sp_q S n * 65536)), t, b)).2.1), .int ((sp_rr k f 15 ((a - sp_q S n), c - (lN (sp_q S n * 65536)), t, b)).2.2.1), .int (nI ((sp_rr k f 15 ((a - sp_q S n), c - (lN (sp_q S n * 65536)), t, b)).2.2.2))])), (hs, .inr (3, [.ref has])), (has, .inl (cI, 8192, .inl (fun j => nI ((sp_up S n (sp_nx (S n) true)) j)))), (hb0, .inr (1, [.ref hba, .int (nI k)])), (hba, .inl (cI, 4096, .inl f))] := hD
        refine lv_iload hx hb dX3_pass_121 (lv_at hl 0 rfl) ?_
        refine lv_if_eq (tgt := 131) hx hb dX3_pass_123 (by decide) (fun c9 => absurd c9 (by decide)) (fun _ => ?_)
        refine lv_iload hx hb dX3_pass_126 (lv_at hl 2 rfl) ?_
        refine lv_goto (tgt := 135) hx hb dX3_pass_128 (by decide) ?_
        have hP9 : va_P (dC, dI) vwCl ((fun _ : Unit => [(hrd, .inr (2, [.ref hs, .ref hb0, .int (nI ((sp_rb k f (a, c, t, b) S n).2.1.1)), .long ((sp_rb k f (a, c, t, b) S n).2.1.2.1), .int ((sp_rb k f (a, c, t, b) S n).2.1.2.2.1), .int (nI ((sp_rb k f (a, c, t, b) S n).2.1.2.2.2))])), (hs, .inr (3, [.ref has])), (has, .inl (cI, 8192, .inl (fun j => nI (((sp_rb k f (a, c, t, b) S n).2.2) j)))), (hb0, .inr (1, [.ref hba, .int (nI k)])), (hba, .inl (cI, 4096, .inl f))]) ()) H := by
          rw [sp_rb_5 (by rw [lg_cmp_ge] at c_43; exact Int64.not_lt.mpr c_43) (by rw [show (32768 : Int32) = nI 32768 from rfl, nI_ltI (by omega) (by omega)] at c_86; omega) (by rw [nI_ltI (by omega) (by omega)] at c_97; omega)]
          exact hP
        have hD9 : va_D A ((fun _ : Unit => [(hrd, .inr (2, [.ref hs, .ref hb0, .int (nI ((sp_rb k f (a, c, t, b) S n).2.1.1)), .long ((sp_rb k f (a, c, t, b) S n).2.1.2.1), .int ((sp_rb k f (a, c, t, b) S n).2.1.2.2.1), .int (nI ((sp_rb k f (a, c, t, b) S n).2.1.2.2.2))])), (hs, .inr (3, [.ref has])), (has, .inl (cI, 8192, .inl (fun j => nI (((sp_rb k f (a, c, t, b) S n).2.2) j)))), (hb0, .inr (1, [.ref hba, .int (nI k)])), (hba, .inl (cI, 4096, .inl f))]) ()) := by
          rw [sp_rb_5 (by rw [lg_cmp_ge] at c_43; exact Int64.not_lt.mpr c_43) (by rw [show (32768 : Int32) = nI 32768 from rfl, nI_ltI (by omega) (by omega)] at c_86; omega) (by rw [nI_ltI (by omega) (by omega)] at c_97; omega)]
          exact hD
        exact W.iret (v := nI (S n % 2)) hx hb hr (fun t ht hW => ⟨⟨nI (S n % 2), (), rfl, by rw [sp_rb_5 (by rw [lg_cmp_ge] at c_43; exact Int64.not_lt.mpr c_43) (by rw [show (32768 : Int32) = nI 32768 from rfl, nI_ltI (by omega) (by omega)] at c_86; omega) (by rw [nI_ltI (by omega) (by omega)] at c_97; omega)], by rw [ht]; exact hP9, va_K.moved hW.alike hK, hD9⟩, hS.F ht⟩) hS.2.2 dX3_pass_135
    · refine lv_iload hx hb dX3_pass_89 (lv_at hl 1 rfl) ?_
      have hP9 : va_P (dC, dI) vwCl ((fun _ : Unit => [(hrd, .inr (2, [.ref hs, .ref hb0, .int (nI ((sp_rb k f (a, c, t, b) S n).2.1.1)), .long ((sp_rb k f (a, c, t, b) S n).2.1.2.1), .int ((sp_rb k f (a, c, t, b) S n).2.1.2.2.1), .int (nI ((sp_rb k f (a, c, t, b) S n).2.1.2.2.2))])), (hs, .inr (3, [.ref has])), (has, .inl (cI, 8192, .inl (fun j => nI (((sp_rb k f (a, c, t, b) S n).2.2) j)))), (hb0, .inr (1, [.ref hba, .int (nI k)])), (hba, .inl (cI, 4096, .inl f))]) ()) H := by
        rw [sp_rb_3 (by rw [lg_cmp_ge] at c_43; exact Int64.not_lt.mpr c_43) (by rw [show (32768 : Int32) = nI 32768 from rfl, nI_ltI (by omega) (by omega)] at c_86; omega)]
        exact hP
      have hD9 : va_D A ((fun _ : Unit => [(hrd, .inr (2, [.ref hs, .ref hb0, .int (nI ((sp_rb k f (a, c, t, b) S n).2.1.1)), .long ((sp_rb k f (a, c, t, b) S n).2.1.2.1), .int ((sp_rb k f (a, c, t, b) S n).2.1.2.2.1), .int (nI ((sp_rb k f (a, c, t, b) S n).2.1.2.2.2))])), (hs, .inr (3, [.ref has])), (has, .inl (cI, 8192, .inl (fun j => nI (((sp_rb k f (a, c, t, b) S n).2.2) j)))), (hb0, .inr (1, [.ref hba, .int (nI k)])), (hba, .inl (cI, 4096, .inl f))]) ()) := by
        rw [sp_rb_3 (by rw [lg_cmp_ge] at c_43; exact Int64.not_lt.mpr c_43) (by rw [show (32768 : Int32) = nI 32768 from rfl, nI_ltI (by omega) (by omega)] at c_86; omega)]
        exact hD
      exact W.iret (v := nI (S n % 2)) hx hb hr (fun t ht hW => ⟨⟨nI (S n % 2), (), rfl, by rw [sp_rb_3 (by rw [lg_cmp_ge] at c_43; exact Int64.not_lt.mpr c_43) (by rw [show (32768 : Int32) = nI 32768 from rfl, nI_ltI (by omega) (by omega)] at c_86; omega)], by rw [ht]; exact hP9, va_K.moved hW.alike hK, hD9⟩, hS.F ht⟩) hS.2.2 dX3_pass_91
  · refine lv_aload_n hx hb dX3_pass_46 rfl (lv_at hl 3 rfl) ?_
    refine va_get (D := (dC, dI)) (ci := 2) (v := .int (nI (a - sp_q S n))) (C := RX3) (T := TX3) (N := 6) hx hb hts hiX3 hown hK hP 0 rfl rfl 2 (by decide) (hts (.fieldLink RX3 17 "RefineRegions$Reader" "interval" "I") (by decide +kernel)) (fun _ h9 => h9) rfl dX3_pass_47 ?_
    refine lv_iload_n hx hb dX3_pass_50 rfl (lv_at hl 2 rfl) ?_
    refine lv_icmp_ge (tgt := 58) hx hb dX3_pass_51 (by decide) (fun c_51 => ?_) (fun c_51 => ?_)
    · refine lv_iconst (v := 0) hx hb dX3_pass_58 (by decide) ?_
      refine lv_istore (lv' := [(7, .int 0), (5, .long (lN (sp_q S n * 65536))), (4, .int (nI (S n % 2))), (3, .int (nI (sp_q S n))), (0, .ref hrd), (1, .int (nI n)), (2, .int bit)]) hx hb dX3_pass_59 hl (by decide) rfl (fun ls hl => ?_)
      refine lv_aload_n hx hb dX3_pass_61 rfl (lv_at hl 4 rfl) ?_
      refine lv_iload_n hx hb dX3_pass_62 rfl (lv_at hl 3 rfl) ?_
      refine va_put (D := (dC, dI)) (ci := 2) (v := .int (nI (sp_q S n))) (ty := .int) (C := RX3) (T := TX3) (N := 6) hx hb hts hiX3 tyX3 tyX3_ok nmX3 hown hK hP hD hS 0 rfl rfl 2 (by decide) (hts (.fieldLink RX3 17 "RefineRegions$Reader" "interval" "I") (by decide +kernel)) (fun _ h9 => h9) rfl (by decide +kernel) rfl rfl (Nat.le_of_ble_eq_true rfl) dX3_pass_63 (fun H locs hP hD hS => ?_)
      have hP : va_P (dC, dI) vwCl [(hrd, .inr (2, [.ref hs, .ref hb0, .int (nI (sp_q S n)), .long c, .int t, .int (nI b)])), (hs, .inr (3, [.ref has])), (has, .inl (cI, 8192, .inl (fun j => nI (S j)))), (hb0, .inr (1, [.ref hba, .int (nI k)])), (hba, .inl (cI, 4096, .inl f))] H := hP
      have hD : va_D A [(hrd, .inr (2, [.ref hs, .ref hb0, .int (nI (sp_q S n)), .long c, .int t, .int (nI b)])), (hs, .inr (3, [.ref has])), (has, .inl (cI, 8192, .inl (fun j => nI (S j)))), (hb0, .inr (1, [.ref hba, .int (nI k)])), (hba, .inl (cI, 4096, .inl f))] := hD
      refine lv_goto (tgt := 107) hx hb dX3_pass_66 (by decide) ?_
      refine lv_aload_n hx hb dX3_pass_107 rfl (lv_at hl 4 rfl) ?_
      refine va_get (D := (dC, dI)) (ci := 2) (v := .ref hs) (C := RX3) (T := TX3) (N := 6) hx hb hts hiX3 hown hK hP 0 rfl rfl 0 (by decide) (hts (.fieldLink RX3 10 "RefineRegions$Reader" "states" "LRefineRegions$States;") (by decide +kernel)) (fun _ h9 => h9) rfl dX3_pass_108 ?_
      refine lv_iload_n hx hb dX3_pass_111 rfl (lv_at hl 5 rfl) ?_
      refine lv_iload hx hb dX3_pass_112 (lv_at hl 0 rfl) ?_
      refine hw_callv (wr := [(hrd, .inr (2, [.ref hs, .ref hb0, .int (nI (sp_q S n)), .long c, .int t, .int (nI b)])), (hb0, .inr (1, [.ref hba, .int (nI k)])), (hba, .inl (cI, 4096, .inl f))]) (w2 := fun _ : Unit => [(hrd, .inr (2, [.ref hs, .ref hb0, .int (nI (sp_q S n)), .long c, .int t, .int (nI b)])), (hs, .inr (3, [.ref has])), (has, .inl (cI, 8192, .inl (fun j => nI ((sp_up S n (sp_nx (S n) false)) j)))), (hb0, .inr (1, [.ref hba, .int (nI k)])), (hba, .inl (cI, 4096, .inl f))]) (va_runVN (As := [.int (nI n), .int 0]) (rest := []) ⟨hx, hb, hml, hown, hts⟩ (c_X4_advance_false l dC dI cI cZ cJ hs has S n (hS94) (hn0) H.size) ⟨va_cnB 2 hts gX3_pass_X4_advance_n53 rfl rfl rfl (nw_X3_53 hN) (hts (.initialized RX4) (by decide +kernel)) (by decide +kernel) ⟨Nat.le_of_ble_eq_true rfl, Nat.le_of_ble_eq_true rfl⟩, hts (.instanceMethod yX4_advance) (by decide +kernel), hts (.selects RX4 yX4_advance yX4_advance) (by decide +kernel)⟩ (hw_preV hP hD hS hA hk [1, 2] (by decide) rfl (ci := 3) (q0 := 1) rfl rfl) rfl rfl hl.1 rfl (lv_room (Nat.le_of_ble_eq_true rfl)) dX3_pass_114 ⟨Nat.le_of_ble_eq_true rfl, Nat.le_of_ble_eq_true rfl⟩) hP hD hS hA [1, 2] [0, 3, 4] [0, 3, 4, 1, 2] rfl rfl (by decide) (by decide) (by decide) (fun _ => rfl) (fun u_114_3 H locs hw hP hD hS => ?_)
      have hP : va_P (dC, dI) vwCl [(hrd, .inr (2, [.ref hs, .ref hb0, .int (nI (sp_q S n)), .long c, .int t, .int (nI b)])), (hs, .inr (3, [.ref has])), (has, .inl (cI, 8192, .inl (fun j => nI ((sp_up S n (sp_nx (S n) false)) j)))), (hb0, .inr (1, [.ref hba, .int (nI k)])), (hba, .inl (cI, 4096, .inl f))] H := hP
      have hD : va_D A [(hrd, .inr (2, [.ref hs, .ref hb0, .int (nI (sp_q S n)), .long c, .int t, .int (nI b)])), (hs, .inr (3, [.ref has])), (has, .inl (cI, 8192, .inl (fun j => nI ((sp_up S n (sp_nx (S n) false)) j)))), (hb0, .inr (1, [.ref hba, .int (nI k)])), (hba, .inl (cI, 4096, .inl f))] := hD
      refine lv_aload_n hx hb dX3_pass_117 rfl (lv_at hl 4 rfl) ?_
      refine hw_callv (wr := [(hs, .inr (3, [.ref has])), (has, .inl (cI, 8192, .inl (fun j => nI ((sp_up S n (sp_nx (S n) false)) j))))]) (w2 := fun _ : Unit => [(hrd, .inr (2, [.ref hs, .ref hb0, .int (nI ((sp_rr k f 15 ((sp_q S n), c, t, b)).1)), .long ((sp_rr k f 15 ((sp_q S n), c, t, b)).2.1), .int ((sp_rr k f 15 ((sp_q S n), c, t, b)).2.2.1), .int (nI ((sp_rr k f 15 ((sp_q S n), c, t, b)).2.2.2))])), (hs, .inr (3, [.ref has])), (has, .inl (cI, 8192, .inl (fun j => nI ((sp_up S n (sp_nx (S n) false)) j)))), (hb0, .inr (1, [.ref hba, .int (nI k)])), (hba, .inl (cI, 4096, .inl f))]) (va_runV (As := []) (rest := []) ⟨hx, hb, hml, hown, hts⟩ (c_X3_renew l dC dI cI cZ cJ hrd hs hb0 hba k f (sp_q S n) c t b (hk0) (hb1) (by omega) H.size) (cwV 0 hts gX3_pass_X3_renew rfl rfl rfl (by decide +kernel) ⟨Nat.le_of_ble_eq_true rfl, Nat.le_of_ble_eq_true rfl⟩) (hw_preV hP hD hS hA hk [0, 3, 4] (by decide) rfl (ci := 2) (q0 := 0) rfl rfl) rfl rfl hl.1 rfl (lv_room (Nat.le_of_ble_eq_true rfl)) dX3_pass_118 ⟨Nat.le_of_ble_eq_true rfl, Nat.le_of_ble_eq_true rfl⟩) hP hD hS hA [0, 3, 4] [1, 2] [2, 0, 1, 3, 4] rfl rfl (by decide) (by decide) (by decide) (fun _ => rfl) (fun u_118_3 H locs hw hP hD hS => ?_)
      have hP : va_P (dC, dI) vwCl [(hrd, .inr (2, [.ref hs, .ref hb0, .int (nI ((sp_rr k f 15 ((sp_q S n), c, t, b)).1)), .long ((sp_rr k f 15 ((sp_q S n), c, t, b)).2.1), .int ((sp_rr k f 15 ((sp_q S n), c, t, b)).2.2.1), .int (nI ((sp_rr k f 15 ((sp_q S n), c, t, b)).2.2.2))])), (hs, .inr (3, [.ref has])), (has, .inl (cI, 8192, .inl (fun j => nI ((sp_up S n (sp_nx (S n) false)) j)))), (hb0, .inr (1, [.ref hba, .int (nI k)])), (hba, .inl (cI, 4096, .inl f))] H := hP
      have hD : va_D A [(hrd, .inr (2, [.ref hs, .ref hb0, .int (nI ((sp_rr k f 15 ((sp_q S n), c, t, b)).1)), .long ((sp_rr k f 15 ((sp_q S n), c, t, b)).2.1), .int ((sp_rr k f 15 ((sp_q S n), c, t, b)).2.2.1), .int (nI ((sp_rr k f 15 ((sp_q S n), c, t, b)).2.2.2))])), (hs, .inr (3, [.ref has])), (has, .inl (cI, 8192, .inl (fun j => nI ((sp_up S n (sp_nx (S n) false)) j)))), (hb0, .inr (1, [.ref hba, .int (nI k)])), (hba, .inl (cI, 4096, .inl f))] := hD
      refine lv_iload hx hb dX3_pass_121 (lv_at hl 0 rfl) ?_
      refine lv_if_eq (tgt := 131) hx hb dX3_pass_123 (by decide) (fun _ => ?_) (fun c9 => absurd (by decide) c9)
      refine lv_iconst (v := 1) hx hb dX3_pass_131 (by decide) ?_
      refine lv_iload hx hb dX3_pass_132 (lv_at hl 2 rfl) ?_
      refine lv_isub hx hb dX3_pass_134 ?_
      refine hw_i (y := nI (1 - S n % 2)) (by rw [show (1 : Int32) = nI 1 from rfl]; exact pk_sub (by omega)) ?_
      have hP9 : va_P (dC, dI) vwCl ((fun _ : Unit => [(hrd, .inr (2, [.ref hs, .ref hb0, .int (nI ((sp_rb k f (a, c, t, b) S n).2.1.1)), .long ((sp_rb k f (a, c, t, b) S n).2.1.2.1), .int ((sp_rb k f (a, c, t, b) S n).2.1.2.2.1), .int (nI ((sp_rb k f (a, c, t, b) S n).2.1.2.2.2))])), (hs, .inr (3, [.ref has])), (has, .inl (cI, 8192, .inl (fun j => nI (((sp_rb k f (a, c, t, b) S n).2.2) j)))), (hb0, .inr (1, [.ref hba, .int (nI k)])), (hba, .inl (cI, 4096, .inl f))]) ()) H := by
        rw [sp_rb_2 (by rw [lg_cmp_ge, Int64.not_le] at c_43; exact c_43) (by rw [nI_leI (by omega) (by omega)] at c_51; omega)]
        exact hP
      have hD9 : va_D A ((fun _ : Unit => [(hrd, .inr (2, [.ref hs, .ref hb0, .int (nI ((sp_rb k f (a, c, t, b) S n).2.1.1)), .long ((sp_rb k f (a, c, t, b) S n).2.1.2.1), .int ((sp_rb k f (a, c, t, b) S n).2.1.2.2.1), .int (nI ((sp_rb k f (a, c, t, b) S n).2.1.2.2.2))])), (hs, .inr (3, [.ref has])), (has, .inl (cI, 8192, .inl (fun j => nI (((sp_rb k f (a, c, t, b) S n).2.2) j)))), (hb0, .inr (1, [.ref hba, .int (nI k)])), (hba, .inl (cI, 4096, .inl f))]) ()) := by
        rw [sp_rb_2 (by rw [lg_cmp_ge, Int64.not_le] at c_43; exact c_43) (by rw [nI_leI (by omega) (by omega)] at c_51; omega)]
        exact hD
      exact W.iret (v := nI (1 - S n % 2)) hx hb hr (fun t ht hW => ⟨⟨nI (1 - S n % 2), (), rfl, by rw [sp_rb_2 (by rw [lg_cmp_ge, Int64.not_le] at c_43; exact c_43) (by rw [nI_leI (by omega) (by omega)] at c_51; omega)], by rw [ht]; exact hP9, va_K.moved hW.alike hK, hD9⟩, hS.F ht⟩) hS.2.2 dX3_pass_135
    · refine lv_iconst (v := 1) hx hb dX3_pass_54 (by decide) ?_
      refine lv_goto (tgt := 59) hx hb dX3_pass_55 (by decide) ?_
      refine lv_istore (lv' := [(7, .int 1), (5, .long (lN (sp_q S n * 65536))), (4, .int (nI (S n % 2))), (3, .int (nI (sp_q S n))), (0, .ref hrd), (1, .int (nI n)), (2, .int bit)]) hx hb dX3_pass_59 hl (by decide) rfl (fun ls hl => ?_)
      refine lv_aload_n hx hb dX3_pass_61 rfl (lv_at hl 4 rfl) ?_
      refine lv_iload_n hx hb dX3_pass_62 rfl (lv_at hl 3 rfl) ?_
      refine va_put (D := (dC, dI)) (ci := 2) (v := .int (nI (sp_q S n))) (ty := .int) (C := RX3) (T := TX3) (N := 6) hx hb hts hiX3 tyX3 tyX3_ok nmX3 hown hK hP hD hS 0 rfl rfl 2 (by decide) (hts (.fieldLink RX3 17 "RefineRegions$Reader" "interval" "I") (by decide +kernel)) (fun _ h9 => h9) rfl (by decide +kernel) rfl rfl (Nat.le_of_ble_eq_true rfl) dX3_pass_63 (fun H locs hP hD hS => ?_)
      have hP : va_P (dC, dI) vwCl [(hrd, .inr (2, [.ref hs, .ref hb0, .int (nI (sp_q S n)), .long c, .int t, .int (nI b)])), (hs, .inr (3, [.ref has])), (has, .inl (cI, 8192, .inl (fun j => nI (S j)))), (hb0, .inr (1, [.ref hba, .int (nI k)])), (hba, .inl (cI, 4096, .inl f))] H := hP
      have hD : va_D A [(hrd, .inr (2, [.ref hs, .ref hb0, .int (nI (sp_q S n)), .long c, .int t, .int (nI b)])), (hs, .inr (3, [.ref has])), (has, .inl (cI, 8192, .inl (fun j => nI (S j)))), (hb0, .inr (1, [.ref hba, .int (nI k)])), (hba, .inl (cI, 4096, .inl f))] := hD
      refine lv_goto (tgt := 107) hx hb dX3_pass_66 (by decide) ?_
      refine lv_aload_n hx hb dX3_pass_107 rfl (lv_at hl 4 rfl) ?_
      refine va_get (D := (dC, dI)) (ci := 2) (v := .ref hs) (C := RX3) (T := TX3) (N := 6) hx hb hts hiX3 hown hK hP 0 rfl rfl 0 (by decide) (hts (.fieldLink RX3 10 "RefineRegions$Reader" "states" "LRefineRegions$States;") (by decide +kernel)) (fun _ h9 => h9) rfl dX3_pass_108 ?_
      refine lv_iload_n hx hb dX3_pass_111 rfl (lv_at hl 5 rfl) ?_
      refine lv_iload hx hb dX3_pass_112 (lv_at hl 0 rfl) ?_
      refine hw_callv (wr := [(hrd, .inr (2, [.ref hs, .ref hb0, .int (nI (sp_q S n)), .long c, .int t, .int (nI b)])), (hb0, .inr (1, [.ref hba, .int (nI k)])), (hba, .inl (cI, 4096, .inl f))]) (w2 := fun _ : Unit => [(hrd, .inr (2, [.ref hs, .ref hb0, .int (nI (sp_q S n)), .long c, .int t, .int (nI b)])), (hs, .inr (3, [.ref has])), (has, .inl (cI, 8192, .inl (fun j => nI ((sp_up S n (sp_nx (S n) true)) j)))), (hb0, .inr (1, [.ref hba, .int (nI k)])), (hba, .inl (cI, 4096, .inl f))]) (va_runVN (As := [.int (nI n), .int 1]) (rest := []) ⟨hx, hb, hml, hown, hts⟩ (c_X4_advance_true l dC dI cI cZ cJ hs has S n (hS94) (hn0) H.size) ⟨va_cnB 2 hts gX3_pass_X4_advance_n53 rfl rfl rfl (nw_X3_53 hN) (hts (.initialized RX4) (by decide +kernel)) (by decide +kernel) ⟨Nat.le_of_ble_eq_true rfl, Nat.le_of_ble_eq_true rfl⟩, hts (.instanceMethod yX4_advance) (by decide +kernel), hts (.selects RX4 yX4_advance yX4_advance) (by decide +kernel)⟩ (hw_preV hP hD hS hA hk [1, 2] (by decide) rfl (ci := 3) (q0 := 1) rfl rfl) rfl rfl hl.1 rfl (lv_room (Nat.le_of_ble_eq_true rfl)) dX3_pass_114 ⟨Nat.le_of_ble_eq_true rfl, Nat.le_of_ble_eq_true rfl⟩) hP hD hS hA [1, 2] [0, 3, 4] [0, 3, 4, 1, 2] rfl rfl (by decide) (by decide) (by decide) (fun _ => rfl) (fun u_114_4 H locs hw hP hD hS => ?_)
      have hP : va_P (dC, dI) vwCl [(hrd, .inr (2, [.ref hs, .ref hb0, .int (nI (sp_q S n)), .long c, .int t, .int (nI b)])), (hs, .inr (3, [.ref has])), (has, .inl (cI, 8192, .inl (fun j => nI ((sp_up S n (sp_nx (S n) true)) j)))), (hb0, .inr (1, [.ref hba, .int (nI k)])), (hba, .inl (cI, 4096, .inl f))] H := hP
      have hD : va_D A [(hrd, .inr (2, [.ref hs, .ref hb0, .int (nI (sp_q S n)), .long c, .int t, .int (nI b)])), (hs, .inr (3, [.ref has])), (has, .inl (cI, 8192, .inl (fun j => nI ((sp_up S n (sp_nx (S n) true)) j)))), (hb0, .inr (1, [.ref hba, .int (nI k)])), (hba, .inl (cI, 4096, .inl f))] := hD
      refine lv_aload_n hx hb dX3_pass_117 rfl (lv_at hl 4 rfl) ?_
      refine hw_callv (wr := [(hs, .inr (3, [.ref has])), (has, .inl (cI, 8192, .inl (fun j => nI ((sp_up S n (sp_nx (S n) true)) j))))]) (w2 := fun _ : Unit => [(hrd, .inr (2, [.ref hs, .ref hb0, .int (nI ((sp_rr k f 15 ((sp_q S n), c, t, b)).1)), .long ((sp_rr k f 15 ((sp_q S n), c, t, b)).2.1), .int ((sp_rr k f 15 ((sp_q S n), c, t, b)).2.2.1), .int (nI ((sp_rr k f 15 ((sp_q S n), c, t, b)).2.2.2))])), (hs, .inr (3, [.ref has])), (has, .inl (cI, 8192, .inl (fun j => nI ((sp_up S n (sp_nx (S n) true)) j)))), (hb0, .inr (1, [.ref hba, .int (nI k)])), (hba, .inl (cI, 4096, .inl f))]) (va_runV (As := []) (rest := []) ⟨hx, hb, hml, hown, hts⟩ (c_X3_renew l dC dI cI cZ cJ hrd hs hb0 hba k f (sp_q S n) c t b (hk0) (hb1) (by omega) H.size) (cwV 0 hts gX3_pass_X3_renew rfl rfl rfl (by decide +kernel) ⟨Nat.le_of_ble_eq_true rfl, Nat.le_of_ble_eq_true rfl⟩) (hw_preV hP hD hS hA hk [0, 3, 4] (by decide) rfl (ci := 2) (q0 := 0) rfl rfl) rfl rfl hl.1 rfl (lv_room (Nat.le_of_ble_eq_true rfl)) dX3_pass_118 ⟨Nat.le_of_ble_eq_true rfl, Nat.le_of_ble_eq_true rfl⟩) hP hD hS hA [0, 3, 4] [1, 2] [2, 0, 1, 3, 4] rfl rfl (by decide) (by decide) (by decide) (fun _ => rfl) (fun u_118_4 H locs hw hP hD hS => ?_)
      have hP : va_P (dC, dI) vwCl [(hrd, .inr (2, [.ref hs, .ref hb0, .int (nI ((sp_rr k f 15 ((sp_q S n), c, t, b)).1)), .long ((sp_rr k f 15 ((sp_q S n), c, t, b)).2.1), .int ((sp_rr k f 15 ((sp_q S n), c, t, b)).2.2.1), .int (nI ((sp_rr k f 15 ((sp_q S n), c, t, b)).2.2.2))])), (hs, .inr (3, [.ref has])), (has, .inl (cI, 8192, .inl (fun j => nI ((sp_up S n (sp_nx (S n) true)) j)))), (hb0, .inr (1, [.ref hba, .int (nI k)])), (hba, .inl (cI, 4096, .inl f))] H := hP
      have hD : va_D A [(hrd, .inr (2, [.ref hs, .ref hb0, .int (nI ((sp_rr k f 15 ((sp_q S n), c, t, b)).1)), .long ((sp_rr k f 15 ((sp_q S n), c, t, b)).2.1), .int ((sp_rr k f 15 ((sp_q S n), c, t, b)).2.2.1), .int (nI ((sp_rr k f 15 ((sp_q S n), c, t, b)).2.2.2))])), (hs, .inr (3, [.ref has])), (has, .inl (cI, 8192, .inl (fun j => nI ((sp_up S n (sp_nx (S n) true)) j)))), (hb0, .inr (1, [.ref hba, .int (nI k)])), (hba, .inl (cI, 4096, .inl f))] := hD
      refine lv_iload hx hb dX3_pass_121 (lv_at hl 0 rfl) ?_
      refine lv_if_eq (tgt := 131) hx hb dX3_pass_123 (by decide) (fun c9 => absurd c9 (by decide)) (fun _ => ?_)
      refine lv_iload hx hb dX3_pass_126 (lv_at hl 2 rfl) ?_
      refine lv_goto (tgt := 135) hx hb dX3_pass_128 (by decide) ?_
      have hP9 : va_P (dC, dI) vwCl ((fun _ : Unit => [(hrd, .inr (2, [.ref hs, .ref hb0, .int (nI ((sp_rb k f (a, c, t, b) S n).2.1.1)), .long ((sp_rb k f (a, c, t, b) S n).2.1.2.1), .int ((sp_rb k f (a, c, t, b) S n).2.1.2.2.1), .int (nI ((sp_rb k f (a, c, t, b) S n).2.1.2.2.2))])), (hs, .inr (3, [.ref has])), (has, .inl (cI, 8192, .inl (fun j => nI (((sp_rb k f (a, c, t, b) S n).2.2) j)))), (hb0, .inr (1, [.ref hba, .int (nI k)])), (hba, .inl (cI, 4096, .inl f))]) ()) H := by
        rw [sp_rb_1 (by rw [lg_cmp_ge, Int64.not_le] at c_43; exact c_43) (by rw [nI_leI (by omega) (by omega)] at c_51; omega)]
        exact hP
      have hD9 : va_D A ((fun _ : Unit => [(hrd, .inr (2, [.ref hs, .ref hb0, .int (nI ((sp_rb k f (a, c, t, b) S n).2.1.1)), .long ((sp_rb k f (a, c, t, b) S n).2.1.2.1), .int ((sp_rb k f (a, c, t, b) S n).2.1.2.2.1), .int (nI ((sp_rb k f (a, c, t, b) S n).2.1.2.2.2))])), (hs, .inr (3, [.ref has])), (has, .inl (cI, 8192, .inl (fun j => nI (((sp_rb k f (a, c, t, b) S n).2.2) j)))), (hb0, .inr (1, [.ref hba, .int (nI k)])), (hba, .inl (cI, 4096, .inl f))]) ()) := by
        rw [sp_rb_1 (by rw [lg_cmp_ge, Int64.not_le] at c_43; exact c_43) (by rw [nI_leI (by omega) (by omega)] at c_51; omega)]
        exact hD
      exact W.iret (v := nI (S n % 2)) hx hb hr (fun t ht hW => ⟨⟨nI (S n % 2), (), rfl, by rw [sp_rb_1 (by rw [lg_cmp_ge, Int64.not_le] at c_43; exact c_43) (by rw [nI_leI (by omega) (by omega)] at c_51; omega)], by rw [ht]; exact hP9, va_K.moved hW.alike hK, hD9⟩, hS.F ht⟩) hS.2.2 dX3_pass_135
