section SPTN
/-- the table's first n places, the others 0 -/
def sp_tabn (n : Nat) : Nat → Int32 := fun j => if j < n then nI (sp_t j) else 0
theorem sp_tabn_s {i : Nat} {x v : Int32} (hx : x.toNatClampNeg = i) (hv : v = nI (sp_t i)) : upd (sp_tabn i) x.toNatClampNeg v = sp_tabn (i + 1) := by
  funext j
  unfold upd sp_tabn
  rw [hx]
  by_cases h : j = i
  · subst h
    simp [hv]
  · by_cases h2 : j < i
    · simp [h, h2, Nat.lt_succ_of_lt h2]
    · simp [h, h2, show ¬ j < i + 1 by omega]
theorem sp_tabn_s0 {i : Nat} {x v : Int32} (hx : x.toNatClampNeg = 0) (hv : v = nI (sp_t 0)) : upd (fun _ => 0) x.toNatClampNeg v = sp_tabn 1 := by
  have e : (fun _ => 0 : Nat → Int32) = sp_tabn 0 := by
    funext j
    unfold sp_tabn
    rw [if_neg (Nat.not_lt_zero j)]
  rw [e]
  exact sp_tabn_s hx hv
theorem sp_tabn_e {j : Nat} (h : j < 188) : sp_tabn 188 j = nI (sp_t j) := if_pos h
theorem vp_in_lit {x : Int32} {n N : Nat} (hx : x = nI n) (h : n < N) (hN : N < 2 ^ 31) : vp_in x N := by
  rw [hx]
  exact vp_in_nI h hN
end SPTN
set_option maxHeartbeats 4000000 in
set_option maxRecDepth 100000 in
/-- the reference: its constructor -/
theorem c_X8_init (l : Launch) (dC : Nat → ClassId) (dI : Nat → Nat → Nat) (cI cZ cJ : ClassId) (m0 : Nat) (sz : Nat) : Met l yX8_init wsX8_init ({ frames := 1, cells := 6, slots := 27572, locals := 12 }) (hw_Pre (dC, dI) vwCl (ty3 cI cZ cJ) [(m0, .inr (7, [.int 0, .null, .int 0, .int 0, .int 0, .int 0, .null, .null, .int 0, .int 0, .int 0, .int 0, .int 0, .null, .int 0, .int 0, .int 0, .int 0, .int 0, .int 0, .int 0, .null, .null, .int 0, .int 0, .int 0, .int 0, .long 0, .long 0, .int 0, .int 0]))] sz [.ref m0]) (va_Qv (fun _ : Nat → Nat => True) (hw_at (dC, dI) vwCl (ty3 cI cZ cJ) (fun u : Nat → Nat => [(m0, .inr (7, [.int 0, .ref (u 1), .int (nI 8), .int (nI 8), .int 0, .int 0, .ref (u 2), .ref (u 3), .int 0, .int 0, .int 0, .int (nI 0), .int (nI 0), .ref (u 4), .int 0, .int 0, .int (-1), .int (-1), .int (-1), .int (-1), .int 0, .ref (u 5), .ref (u 6), .int (nI 0), .int (nI 0), .int (nI 0), .int (nI 0), .long 0, .long 0, .int 0, .int (nI 0)])), ((u 1), .inl (cI, 188, .inl (fun j => nI (sp_t j)))), ((u 2), .inl (cZ, 1600, .inl (fun _ => 0))), ((u 3), .inl (cZ, 1600, .inl (fun _ => 0))), ((u 4), .inl (cZ, 3600, .inl (fun _ => 0))), ((u 5), .inl (cI, 16384, .inl (sp_cat (fun _ => 0) (fun _ => 0)))), ((u 6), .inl (cI, 4200, .inl (fun _ => 0)))]) (va_A [(m0, .inr (7, [.int 0, .null, .int 0, .int 0, .int 0, .int 0, .null, .null, .int 0, .int 0, .int 0, .int 0, .int 0, .null, .int 0, .int 0, .int 0, .int 0, .int 0, .int 0, .int 0, .null, .null, .int 0, .int 0, .int 0, .int 0, .long 0, .long 0, .int 0, .int 0]))] sz)) (va_A [(m0, .inr (7, [.int 0, .null, .int 0, .int 0, .int 0, .int 0, .null, .null, .int 0, .int 0, .int 0, .int 0, .int 0, .null, .int 0, .int 0, .int 0, .int 0, .int 0, .int 0, .int 0, .null, .null, .int 0, .int 0, .int 0, .int 0, .long 0, .long 0, .int 0, .int 0]))] sz)) 6 27572 (va_A [(m0, .inr (7, [.int 0, .null, .int 0, .int 0, .int 0, .int 0, .null, .null, .int 0, .int 0, .int 0, .int 0, .int 0, .null, .int 0, .int 0, .int 0, .int 0, .int 0, .int 0, .int 0, .null, .null, .int 0, .int 0, .int 0, .int 0, .long 0, .long 0, .int 0, .int 0]))] sz) := by
  refine Met.ofW (cc := cX8_init) (maxL := 1) (ret := none) (by decide) rfl ?_
  intro pg ev s m args below meth cd s₁ B hml hv
  obtain ⟨rfl, hsz, hP, hK, hN, hZ, hD0⟩ := hv
  have hx := B.exec
  have hb := B.bytes
  have hr := B.returns
  have hts := atoms_spec (ws := wsX8_init) B.pre
  have hown : s.vm.findClass RX8 = some m.cls := findClass_of_methodNamed B.named
  have hlocks := B.notSynchronized
  have hin : meth.name = "<init>" := (name_of_methodNamed B.named B.method).1
  subst hsz
  have hD := hD0.self (sz := s.heap.size)
  generalize hAe : va_A [(m0, .inr (7, [.int 0, .null, .int 0, .int 0, .int 0, .int 0, .null, .null, .int 0, .int 0, .int 0, .int 0, .int 0, .null, .int 0, .int 0, .int 0, .int 0, .int 0, .int 0, .int 0, .null, .null, .int 0, .int 0, .int 0, .int 0, .long 0, .long 0, .int 0, .int 0]))] s.heap.size = A at hD hZ ⊢
  have hA : ∀ q : Nat, s.heap.size ≤ q → A q := fun q h => by rw [← hAe]; exact Or.inr h
  have hS : va_S A s.heap s.heap [] := va_S.rf
  have hk : hw_K (dC, dI) vwCl (ty3 cI cZ cJ) A s := ⟨hK, hN, hZ⟩
  have hiX8 : ∀ w ∈ u_ws RX8 TX8 31, w ∈ wsX8_init := by decide +kernel
  have hl := lv_entry ([.ref m0]) (n := 1) (Nat.le_of_ble_eq_true rfl)
  rw [lg_entry_eq]
  generalize (lg_sl ([.ref m0]) ++ List.replicate (1 - (lg_sl ([.ref m0])).length) Slot.unset).toArray = ls at hl ⊢
  have hl : lv_has ls 1 [(0, .ref m0)] := hl
  refine lv_aload_n hx hb dX8_init_0 rfl (lv_at hl 0 rfl) ?_
  refine W.objInit hx hb hown (hts (.methodLink RX8 1 objectInit) (by decide +kernel)) (hts (.instanceMethod objectInit) (by decide +kernel)) (hts _ (List.mem_of_getElem? (i := 3) rfl)) rfl (by rw [hml]; exact hl.1) rfl dX8_init_1 (Nat.le_of_ble_eq_true rfl) (Nat.le_of_ble_eq_true rfl) ?_
  refine W.eq (g2 := F0 m 4 ls []) rfl ?_
  refine lv_aload_n hx hb dX8_init_4 rfl (lv_at hl 0 rfl) ?_
  refine lv_sipush (v := 188) hx hb dX8_init_5 (by decide) ?_
  refine hw_newi 188 0 hx hb (hts (.arrayClass .int) (by decide +kernel)) hK rfl hP hD hS hA (by decide +kernel) (by decide +kernel) (Nat.le_of_ble_eq_true rfl) (Nat.le_of_ble_eq_true rfl) (Nat.le_of_ble_eq_true rfl) dX8_init_8 (fun q_8 H hP hD hS => ?_)
  refine W.widen (k := 1) (n := 188) (Nat.le_of_ble_eq_true rfl) (Nat.le_of_ble_eq_true rfl) ?_
  have hP : va_P (dC, dI) vwCl [(m0, .inr (7, [.int 0, .null, .int 0, .int 0, .int 0, .int 0, .null, .null, .int 0, .int 0, .int 0, .int 0, .int 0, .null, .int 0, .int 0, .int 0, .int 0, .int 0, .int 0, .int 0, .null, .null, .int 0, .int 0, .int 0, .int 0, .long 0, .long 0, .int 0, .int 0])), (q_8, .inl (cI, 188, .inl (fun _ => 0)))] H := hP
  have hD : va_D A [(m0, .inr (7, [.int 0, .null, .int 0, .int 0, .int 0, .int 0, .null, .null, .int 0, .int 0, .int 0, .int 0, .int 0, .null, .int 0, .int 0, .int 0, .int 0, .int 0, .int 0, .int 0, .null, .null, .int 0, .int 0, .int 0, .int 0, .long 0, .long 0, .int 0, .int 0])), (q_8, .inl (cI, 188, .inl (fun _ => 0)))] := hD
  refine lv_dup hx hb dX8_init_10 rfl ?_
  refine lv_iconst (v := 0) hx hb dX8_init_11 (by decide) ?_
  refine lv_sipush (v := 22017) hx hb dX8_init_12 (by decide) ?_
  refine va_iast hx hb hK hP hD hS 1 0 rfl rfl (vp_in_lit (n := 0) rfl (by decide) (by decide)) dX8_init_15 (fun H locs hP hD hS => ?_)
  have eA : upd (fun _ => 0) (0 : Int32).toNatClampNeg 22017 = sp_tabn 1 := sp_tabn_s0 (i := 0) (by decide) (by decide)
  rw [eA] at hP hD
  have hP : va_P (dC, dI) vwCl [(m0, .inr (7, [.int 0, .null, .int 0, .int 0, .int 0, .int 0, .null, .null, .int 0, .int 0, .int 0, .int 0, .int 0, .null, .int 0, .int 0, .int 0, .int 0, .int 0, .int 0, .int 0, .null, .null, .int 0, .int 0, .int 0, .int 0, .long 0, .long 0, .int 0, .int 0])), (q_8, .inl (cI, 188, .inl (sp_tabn 1)))] H := hP
  have hD : va_D A [(m0, .inr (7, [.int 0, .null, .int 0, .int 0, .int 0, .int 0, .null, .null, .int 0, .int 0, .int 0, .int 0, .int 0, .null, .int 0, .int 0, .int 0, .int 0, .int 0, .int 0, .int 0, .null, .null, .int 0, .int 0, .int 0, .int 0, .long 0, .long 0, .int 0, .int 0])), (q_8, .inl (cI, 188, .inl (sp_tabn 1)))] := hD
  refine lv_dup hx hb dX8_init_16 rfl ?_
  refine lv_iconst (v := 1) hx hb dX8_init_17 (by decide) ?_
  refine lv_iconst (v := 1) hx hb dX8_init_18 (by decide) ?_
  refine va_iast hx hb hK hP hD hS 1 0 rfl rfl (vp_in_lit (n := 1) rfl (by decide) (by decide)) dX8_init_19 (fun H locs hP hD hS => ?_)
  have eA : upd (sp_tabn 1) (1 : Int32).toNatClampNeg 1 = sp_tabn 2 := sp_tabn_s (i := 1) (by decide) (by decide)
  rw [eA] at hP hD
  have hP : va_P (dC, dI) vwCl [(m0, .inr (7, [.int 0, .null, .int 0, .int 0, .int 0, .int 0, .null, .null, .int 0, .int 0, .int 0, .int 0, .int 0, .null, .int 0, .int 0, .int 0, .int 0, .int 0, .int 0, .int 0, .null, .null, .int 0, .int 0, .int 0, .int 0, .long 0, .long 0, .int 0, .int 0])), (q_8, .inl (cI, 188, .inl (sp_tabn 2)))] H := hP
  have hD : va_D A [(m0, .inr (7, [.int 0, .null, .int 0, .int 0, .int 0, .int 0, .null, .null, .int 0, .int 0, .int 0, .int 0, .int 0, .null, .int 0, .int 0, .int 0, .int 0, .int 0, .int 0, .int 0, .null, .null, .int 0, .int 0, .int 0, .int 0, .long 0, .long 0, .int 0, .int 0])), (q_8, .inl (cI, 188, .inl (sp_tabn 2)))] := hD
  refine lv_dup hx hb dX8_init_20 rfl ?_
  refine lv_iconst (v := 2) hx hb dX8_init_21 (by decide) ?_
  refine lv_iconst (v := 1) hx hb dX8_init_22 (by decide) ?_
  refine va_iast hx hb hK hP hD hS 1 0 rfl rfl (vp_in_lit (n := 2) rfl (by decide) (by decide)) dX8_init_23 (fun H locs hP hD hS => ?_)
  have eA : upd (sp_tabn 2) (2 : Int32).toNatClampNeg 1 = sp_tabn 3 := sp_tabn_s (i := 2) (by decide) (by decide)
  rw [eA] at hP hD
  have hP : va_P (dC, dI) vwCl [(m0, .inr (7, [.int 0, .null, .int 0, .int 0, .int 0, .int 0, .null, .null, .int 0, .int 0, .int 0, .int 0, .int 0, .null, .int 0, .int 0, .int 0, .int 0, .int 0, .int 0, .int 0, .null, .null, .int 0, .int 0, .int 0, .int 0, .long 0, .long 0, .int 0, .int 0])), (q_8, .inl (cI, 188, .inl (sp_tabn 3)))] H := hP
  have hD : va_D A [(m0, .inr (7, [.int 0, .null, .int 0, .int 0, .int 0, .int 0, .null, .null, .int 0, .int 0, .int 0, .int 0, .int 0, .null, .int 0, .int 0, .int 0, .int 0, .int 0, .int 0, .int 0, .null, .null, .int 0, .int 0, .int 0, .int 0, .long 0, .long 0, .int 0, .int 0])), (q_8, .inl (cI, 188, .inl (sp_tabn 3)))] := hD
  refine lv_dup hx hb dX8_init_24 rfl ?_
  refine lv_iconst (v := 3) hx hb dX8_init_25 (by decide) ?_
  refine lv_iconst (v := 1) hx hb dX8_init_26 (by decide) ?_
  refine va_iast hx hb hK hP hD hS 1 0 rfl rfl (vp_in_lit (n := 3) rfl (by decide) (by decide)) dX8_init_27 (fun H locs hP hD hS => ?_)
  have eA : upd (sp_tabn 3) (3 : Int32).toNatClampNeg 1 = sp_tabn 4 := sp_tabn_s (i := 3) (by decide) (by decide)
  rw [eA] at hP hD
  have hP : va_P (dC, dI) vwCl [(m0, .inr (7, [.int 0, .null, .int 0, .int 0, .int 0, .int 0, .null, .null, .int 0, .int 0, .int 0, .int 0, .int 0, .null, .int 0, .int 0, .int 0, .int 0, .int 0, .int 0, .int 0, .null, .null, .int 0, .int 0, .int 0, .int 0, .long 0, .long 0, .int 0, .int 0])), (q_8, .inl (cI, 188, .inl (sp_tabn 4)))] H := hP
  have hD : va_D A [(m0, .inr (7, [.int 0, .null, .int 0, .int 0, .int 0, .int 0, .null, .null, .int 0, .int 0, .int 0, .int 0, .int 0, .null, .int 0, .int 0, .int 0, .int 0, .int 0, .int 0, .int 0, .null, .null, .int 0, .int 0, .int 0, .int 0, .long 0, .long 0, .int 0, .int 0])), (q_8, .inl (cI, 188, .inl (sp_tabn 4)))] := hD
  refine lv_dup hx hb dX8_init_28 rfl ?_
  refine lv_iconst (v := 4) hx hb dX8_init_29 (by decide) ?_
  refine lv_sipush (v := 13313) hx hb dX8_init_30 (by decide) ?_
  refine va_iast hx hb hK hP hD hS 1 0 rfl rfl (vp_in_lit (n := 4) rfl (by decide) (by decide)) dX8_init_33 (fun H locs hP hD hS => ?_)
  have eA : upd (sp_tabn 4) (4 : Int32).toNatClampNeg 13313 = sp_tabn 5 := sp_tabn_s (i := 4) (by decide) (by decide)
  rw [eA] at hP hD
  have hP : va_P (dC, dI) vwCl [(m0, .inr (7, [.int 0, .null, .int 0, .int 0, .int 0, .int 0, .null, .null, .int 0, .int 0, .int 0, .int 0, .int 0, .null, .int 0, .int 0, .int 0, .int 0, .int 0, .int 0, .int 0, .null, .null, .int 0, .int 0, .int 0, .int 0, .long 0, .long 0, .int 0, .int 0])), (q_8, .inl (cI, 188, .inl (sp_tabn 5)))] H := hP
  have hD : va_D A [(m0, .inr (7, [.int 0, .null, .int 0, .int 0, .int 0, .int 0, .null, .null, .int 0, .int 0, .int 0, .int 0, .int 0, .null, .int 0, .int 0, .int 0, .int 0, .int 0, .int 0, .int 0, .null, .null, .int 0, .int 0, .int 0, .int 0, .long 0, .long 0, .int 0, .int 0])), (q_8, .inl (cI, 188, .inl (sp_tabn 5)))] := hD
  refine lv_dup hx hb dX8_init_34 rfl ?_
  refine lv_iconst (v := 5) hx hb dX8_init_35 (by decide) ?_
  refine lv_iconst (v := 2) hx hb dX8_init_36 (by decide) ?_
  refine va_iast hx hb hK hP hD hS 1 0 rfl rfl (vp_in_lit (n := 5) rfl (by decide) (by decide)) dX8_init_37 (fun H locs hP hD hS => ?_)
  have eA : upd (sp_tabn 5) (5 : Int32).toNatClampNeg 2 = sp_tabn 6 := sp_tabn_s (i := 5) (by decide) (by decide)
  rw [eA] at hP hD
  have hP : va_P (dC, dI) vwCl [(m0, .inr (7, [.int 0, .null, .int 0, .int 0, .int 0, .int 0, .null, .null, .int 0, .int 0, .int 0, .int 0, .int 0, .null, .int 0, .int 0, .int 0, .int 0, .int 0, .int 0, .int 0, .null, .null, .int 0, .int 0, .int 0, .int 0, .long 0, .long 0, .int 0, .int 0])), (q_8, .inl (cI, 188, .inl (sp_tabn 6)))] H := hP
  have hD : va_D A [(m0, .inr (7, [.int 0, .null, .int 0, .int 0, .int 0, .int 0, .null, .null, .int 0, .int 0, .int 0, .int 0, .int 0, .null, .int 0, .int 0, .int 0, .int 0, .int 0, .int 0, .int 0, .null, .null, .int 0, .int 0, .int 0, .int 0, .long 0, .long 0, .int 0, .int 0])), (q_8, .inl (cI, 188, .inl (sp_tabn 6)))] := hD
  refine lv_dup hx hb dX8_init_38 rfl ?_
  refine lv_bipush (v := 6) hx hb dX8_init_39 (by decide) ?_
  refine lv_bipush (v := 6) hx hb dX8_init_41 (by decide) ?_
  refine va_iast hx hb hK hP hD hS 1 0 rfl rfl (vp_in_lit (n := 6) rfl (by decide) (by decide)) dX8_init_43 (fun H locs hP hD hS => ?_)
  have eA : upd (sp_tabn 6) (6 : Int32).toNatClampNeg 6 = sp_tabn 7 := sp_tabn_s (i := 6) (by decide) (by decide)
  rw [eA] at hP hD
  have hP : va_P (dC, dI) vwCl [(m0, .inr (7, [.int 0, .null, .int 0, .int 0, .int 0, .int 0, .null, .null, .int 0, .int 0, .int 0, .int 0, .int 0, .null, .int 0, .int 0, .int 0, .int 0, .int 0, .int 0, .int 0, .null, .null, .int 0, .int 0, .int 0, .int 0, .long 0, .long 0, .int 0, .int 0])), (q_8, .inl (cI, 188, .inl (sp_tabn 7)))] H := hP
  have hD : va_D A [(m0, .inr (7, [.int 0, .null, .int 0, .int 0, .int 0, .int 0, .null, .null, .int 0, .int 0, .int 0, .int 0, .int 0, .null, .int 0, .int 0, .int 0, .int 0, .int 0, .int 0, .int 0, .null, .null, .int 0, .int 0, .int 0, .int 0, .long 0, .long 0, .int 0, .int 0])), (q_8, .inl (cI, 188, .inl (sp_tabn 7)))] := hD
  refine lv_dup hx hb dX8_init_44 rfl ?_
  refine lv_bipush (v := 7) hx hb dX8_init_45 (by decide) ?_
  refine lv_iconst (v := 0) hx hb dX8_init_47 (by decide) ?_
  refine va_iast hx hb hK hP hD hS 1 0 rfl rfl (vp_in_lit (n := 7) rfl (by decide) (by decide)) dX8_init_48 (fun H locs hP hD hS => ?_)
  have eA : upd (sp_tabn 7) (7 : Int32).toNatClampNeg 0 = sp_tabn 8 := sp_tabn_s (i := 7) (by decide) (by decide)
  rw [eA] at hP hD
  have hP : va_P (dC, dI) vwCl [(m0, .inr (7, [.int 0, .null, .int 0, .int 0, .int 0, .int 0, .null, .null, .int 0, .int 0, .int 0, .int 0, .int 0, .null, .int 0, .int 0, .int 0, .int 0, .int 0, .int 0, .int 0, .null, .null, .int 0, .int 0, .int 0, .int 0, .long 0, .long 0, .int 0, .int 0])), (q_8, .inl (cI, 188, .inl (sp_tabn 8)))] H := hP
  have hD : va_D A [(m0, .inr (7, [.int 0, .null, .int 0, .int 0, .int 0, .int 0, .null, .null, .int 0, .int 0, .int 0, .int 0, .int 0, .null, .int 0, .int 0, .int 0, .int 0, .int 0, .int 0, .int 0, .null, .null, .int 0, .int 0, .int 0, .int 0, .long 0, .long 0, .int 0, .int 0])), (q_8, .inl (cI, 188, .inl (sp_tabn 8)))] := hD
  refine lv_dup hx hb dX8_init_49 rfl ?_
  refine lv_bipush (v := 8) hx hb dX8_init_50 (by decide) ?_
  refine lv_sipush (v := 6145) hx hb dX8_init_52 (by decide) ?_
  refine va_iast hx hb hK hP hD hS 1 0 rfl rfl (vp_in_lit (n := 8) rfl (by decide) (by decide)) dX8_init_55 (fun H locs hP hD hS => ?_)
  have eA : upd (sp_tabn 8) (8 : Int32).toNatClampNeg 6145 = sp_tabn 9 := sp_tabn_s (i := 8) (by decide) (by decide)
  rw [eA] at hP hD
  have hP : va_P (dC, dI) vwCl [(m0, .inr (7, [.int 0, .null, .int 0, .int 0, .int 0, .int 0, .null, .null, .int 0, .int 0, .int 0, .int 0, .int 0, .null, .int 0, .int 0, .int 0, .int 0, .int 0, .int 0, .int 0, .null, .null, .int 0, .int 0, .int 0, .int 0, .long 0, .long 0, .int 0, .int 0])), (q_8, .inl (cI, 188, .inl (sp_tabn 9)))] H := hP
  have hD : va_D A [(m0, .inr (7, [.int 0, .null, .int 0, .int 0, .int 0, .int 0, .null, .null, .int 0, .int 0, .int 0, .int 0, .int 0, .null, .int 0, .int 0, .int 0, .int 0, .int 0, .int 0, .int 0, .null, .null, .int 0, .int 0, .int 0, .int 0, .long 0, .long 0, .int 0, .int 0])), (q_8, .inl (cI, 188, .inl (sp_tabn 9)))] := hD
  refine lv_dup hx hb dX8_init_56 rfl ?_
  refine lv_bipush (v := 9) hx hb dX8_init_57 (by decide) ?_
  refine lv_iconst (v := 3) hx hb dX8_init_59 (by decide) ?_
  refine va_iast hx hb hK hP hD hS 1 0 rfl rfl (vp_in_lit (n := 9) rfl (by decide) (by decide)) dX8_init_60 (fun H locs hP hD hS => ?_)
  have eA : upd (sp_tabn 9) (9 : Int32).toNatClampNeg 3 = sp_tabn 10 := sp_tabn_s (i := 9) (by decide) (by decide)
  rw [eA] at hP hD
  have hP : va_P (dC, dI) vwCl [(m0, .inr (7, [.int 0, .null, .int 0, .int 0, .int 0, .int 0, .null, .null, .int 0, .int 0, .int 0, .int 0, .int 0, .null, .int 0, .int 0, .int 0, .int 0, .int 0, .int 0, .int 0, .null, .null, .int 0, .int 0, .int 0, .int 0, .long 0, .long 0, .int 0, .int 0])), (q_8, .inl (cI, 188, .inl (sp_tabn 10)))] H := hP
  have hD : va_D A [(m0, .inr (7, [.int 0, .null, .int 0, .int 0, .int 0, .int 0, .null, .null, .int 0, .int 0, .int 0, .int 0, .int 0, .null, .int 0, .int 0, .int 0, .int 0, .int 0, .int 0, .int 0, .null, .null, .int 0, .int 0, .int 0, .int 0, .long 0, .long 0, .int 0, .int 0])), (q_8, .inl (cI, 188, .inl (sp_tabn 10)))] := hD
  refine lv_dup hx hb dX8_init_61 rfl ?_
  refine lv_bipush (v := 10) hx hb dX8_init_62 (by decide) ?_
  refine lv_bipush (v := 9) hx hb dX8_init_64 (by decide) ?_
  refine va_iast hx hb hK hP hD hS 1 0 rfl rfl (vp_in_lit (n := 10) rfl (by decide) (by decide)) dX8_init_66 (fun H locs hP hD hS => ?_)
  have eA : upd (sp_tabn 10) (10 : Int32).toNatClampNeg 9 = sp_tabn 11 := sp_tabn_s (i := 10) (by decide) (by decide)
  rw [eA] at hP hD
  have hP : va_P (dC, dI) vwCl [(m0, .inr (7, [.int 0, .null, .int 0, .int 0, .int 0, .int 0, .null, .null, .int 0, .int 0, .int 0, .int 0, .int 0, .null, .int 0, .int 0, .int 0, .int 0, .int 0, .int 0, .int 0, .null, .null, .int 0, .int 0, .int 0, .int 0, .long 0, .long 0, .int 0, .int 0])), (q_8, .inl (cI, 188, .inl (sp_tabn 11)))] H := hP
  have hD : va_D A [(m0, .inr (7, [.int 0, .null, .int 0, .int 0, .int 0, .int 0, .null, .null, .int 0, .int 0, .int 0, .int 0, .int 0, .null, .int 0, .int 0, .int 0, .int 0, .int 0, .int 0, .int 0, .null, .null, .int 0, .int 0, .int 0, .int 0, .long 0, .long 0, .int 0, .int 0])), (q_8, .inl (cI, 188, .inl (sp_tabn 11)))] := hD
  refine lv_dup hx hb dX8_init_67 rfl ?_
  refine lv_bipush (v := 11) hx hb dX8_init_68 (by decide) ?_
  refine lv_iconst (v := 0) hx hb dX8_init_70 (by decide) ?_
  refine va_iast hx hb hK hP hD hS 1 0 rfl rfl (vp_in_lit (n := 11) rfl (by decide) (by decide)) dX8_init_71 (fun H locs hP hD hS => ?_)
  have eA : upd (sp_tabn 11) (11 : Int32).toNatClampNeg 0 = sp_tabn 12 := sp_tabn_s (i := 11) (by decide) (by decide)
  rw [eA] at hP hD
  have hP : va_P (dC, dI) vwCl [(m0, .inr (7, [.int 0, .null, .int 0, .int 0, .int 0, .int 0, .null, .null, .int 0, .int 0, .int 0, .int 0, .int 0, .null, .int 0, .int 0, .int 0, .int 0, .int 0, .int 0, .int 0, .null, .null, .int 0, .int 0, .int 0, .int 0, .long 0, .long 0, .int 0, .int 0])), (q_8, .inl (cI, 188, .inl (sp_tabn 12)))] H := hP
  have hD : va_D A [(m0, .inr (7, [.int 0, .null, .int 0, .int 0, .int 0, .int 0, .null, .null, .int 0, .int 0, .int 0, .int 0, .int 0, .null, .int 0, .int 0, .int 0, .int 0, .int 0, .int 0, .int 0, .null, .null, .int 0, .int 0, .int 0, .int 0, .long 0, .long 0, .int 0, .int 0])), (q_8, .inl (cI, 188, .inl (sp_tabn 12)))] := hD
  refine lv_dup hx hb dX8_init_72 rfl ?_
  refine lv_bipush (v := 12) hx hb dX8_init_73 (by decide) ?_
  refine lv_sipush (v := 2753) hx hb dX8_init_75 (by decide) ?_
  refine va_iast hx hb hK hP hD hS 1 0 rfl rfl (vp_in_lit (n := 12) rfl (by decide) (by decide)) dX8_init_78 (fun H locs hP hD hS => ?_)
  have eA : upd (sp_tabn 12) (12 : Int32).toNatClampNeg 2753 = sp_tabn 13 := sp_tabn_s (i := 12) (by decide) (by decide)
  rw [eA] at hP hD
  have hP : va_P (dC, dI) vwCl [(m0, .inr (7, [.int 0, .null, .int 0, .int 0, .int 0, .int 0, .null, .null, .int 0, .int 0, .int 0, .int 0, .int 0, .null, .int 0, .int 0, .int 0, .int 0, .int 0, .int 0, .int 0, .null, .null, .int 0, .int 0, .int 0, .int 0, .long 0, .long 0, .int 0, .int 0])), (q_8, .inl (cI, 188, .inl (sp_tabn 13)))] H := hP
  have hD : va_D A [(m0, .inr (7, [.int 0, .null, .int 0, .int 0, .int 0, .int 0, .null, .null, .int 0, .int 0, .int 0, .int 0, .int 0, .null, .int 0, .int 0, .int 0, .int 0, .int 0, .int 0, .int 0, .null, .null, .int 0, .int 0, .int 0, .int 0, .long 0, .long 0, .int 0, .int 0])), (q_8, .inl (cI, 188, .inl (sp_tabn 13)))] := hD
  refine lv_dup hx hb dX8_init_79 rfl ?_
  refine lv_bipush (v := 13) hx hb dX8_init_80 (by decide) ?_
  refine lv_iconst (v := 4) hx hb dX8_init_82 (by decide) ?_
  refine va_iast hx hb hK hP hD hS 1 0 rfl rfl (vp_in_lit (n := 13) rfl (by decide) (by decide)) dX8_init_83 (fun H locs hP hD hS => ?_)
  have eA : upd (sp_tabn 13) (13 : Int32).toNatClampNeg 4 = sp_tabn 14 := sp_tabn_s (i := 13) (by decide) (by decide)
  rw [eA] at hP hD
  have hP : va_P (dC, dI) vwCl [(m0, .inr (7, [.int 0, .null, .int 0, .int 0, .int 0, .int 0, .null, .null, .int 0, .int 0, .int 0, .int 0, .int 0, .null, .int 0, .int 0, .int 0, .int 0, .int 0, .int 0, .int 0, .null, .null, .int 0, .int 0, .int 0, .int 0, .long 0, .long 0, .int 0, .int 0])), (q_8, .inl (cI, 188, .inl (sp_tabn 14)))] H := hP
  have hD : va_D A [(m0, .inr (7, [.int 0, .null, .int 0, .int 0, .int 0, .int 0, .null, .null, .int 0, .int 0, .int 0, .int 0, .int 0, .null, .int 0, .int 0, .int 0, .int 0, .int 0, .int 0, .int 0, .null, .null, .int 0, .int 0, .int 0, .int 0, .long 0, .long 0, .int 0, .int 0])), (q_8, .inl (cI, 188, .inl (sp_tabn 14)))] := hD
  refine lv_dup hx hb dX8_init_84 rfl ?_
  refine lv_bipush (v := 14) hx hb dX8_init_85 (by decide) ?_
  refine lv_bipush (v := 12) hx hb dX8_init_87 (by decide) ?_
  refine va_iast hx hb hK hP hD hS 1 0 rfl rfl (vp_in_lit (n := 14) rfl (by decide) (by decide)) dX8_init_89 (fun H locs hP hD hS => ?_)
  have eA : upd (sp_tabn 14) (14 : Int32).toNatClampNeg 12 = sp_tabn 15 := sp_tabn_s (i := 14) (by decide) (by decide)
  rw [eA] at hP hD
  have hP : va_P (dC, dI) vwCl [(m0, .inr (7, [.int 0, .null, .int 0, .int 0, .int 0, .int 0, .null, .null, .int 0, .int 0, .int 0, .int 0, .int 0, .null, .int 0, .int 0, .int 0, .int 0, .int 0, .int 0, .int 0, .null, .null, .int 0, .int 0, .int 0, .int 0, .long 0, .long 0, .int 0, .int 0])), (q_8, .inl (cI, 188, .inl (sp_tabn 15)))] H := hP
  have hD : va_D A [(m0, .inr (7, [.int 0, .null, .int 0, .int 0, .int 0, .int 0, .null, .null, .int 0, .int 0, .int 0, .int 0, .int 0, .null, .int 0, .int 0, .int 0, .int 0, .int 0, .int 0, .int 0, .null, .null, .int 0, .int 0, .int 0, .int 0, .long 0, .long 0, .int 0, .int 0])), (q_8, .inl (cI, 188, .inl (sp_tabn 15)))] := hD
  refine lv_dup hx hb dX8_init_90 rfl ?_
  refine lv_bipush (v := 15) hx hb dX8_init_91 (by decide) ?_
  refine lv_iconst (v := 0) hx hb dX8_init_93 (by decide) ?_
  refine va_iast hx hb hK hP hD hS 1 0 rfl rfl (vp_in_lit (n := 15) rfl (by decide) (by decide)) dX8_init_94 (fun H locs hP hD hS => ?_)
  have eA : upd (sp_tabn 15) (15 : Int32).toNatClampNeg 0 = sp_tabn 16 := sp_tabn_s (i := 15) (by decide) (by decide)
  rw [eA] at hP hD
  have hP : va_P (dC, dI) vwCl [(m0, .inr (7, [.int 0, .null, .int 0, .int 0, .int 0, .int 0, .null, .null, .int 0, .int 0, .int 0, .int 0, .int 0, .null, .int 0, .int 0, .int 0, .int 0, .int 0, .int 0, .int 0, .null, .null, .int 0, .int 0, .int 0, .int 0, .long 0, .long 0, .int 0, .int 0])), (q_8, .inl (cI, 188, .inl (sp_tabn 16)))] H := hP
  have hD : va_D A [(m0, .inr (7, [.int 0, .null, .int 0, .int 0, .int 0, .int 0, .null, .null, .int 0, .int 0, .int 0, .int 0, .int 0, .null, .int 0, .int 0, .int 0, .int 0, .int 0, .int 0, .int 0, .null, .null, .int 0, .int 0, .int 0, .int 0, .long 0, .long 0, .int 0, .int 0])), (q_8, .inl (cI, 188, .inl (sp_tabn 16)))] := hD
  refine lv_dup hx hb dX8_init_95 rfl ?_
  refine lv_bipush (v := 16) hx hb dX8_init_96 (by decide) ?_
  refine lv_sipush (v := 1313) hx hb dX8_init_98 (by decide) ?_
  refine va_iast hx hb hK hP hD hS 1 0 rfl rfl (vp_in_lit (n := 16) rfl (by decide) (by decide)) dX8_init_101 (fun H locs hP hD hS => ?_)
  have eA : upd (sp_tabn 16) (16 : Int32).toNatClampNeg 1313 = sp_tabn 17 := sp_tabn_s (i := 16) (by decide) (by decide)
  rw [eA] at hP hD
  have hP : va_P (dC, dI) vwCl [(m0, .inr (7, [.int 0, .null, .int 0, .int 0, .int 0, .int 0, .null, .null, .int 0, .int 0, .int 0, .int 0, .int 0, .null, .int 0, .int 0, .int 0, .int 0, .int 0, .int 0, .int 0, .null, .null, .int 0, .int 0, .int 0, .int 0, .long 0, .long 0, .int 0, .int 0])), (q_8, .inl (cI, 188, .inl (sp_tabn 17)))] H := hP
  have hD : va_D A [(m0, .inr (7, [.int 0, .null, .int 0, .int 0, .int 0, .int 0, .null, .null, .int 0, .int 0, .int 0, .int 0, .int 0, .null, .int 0, .int 0, .int 0, .int 0, .int 0, .int 0, .int 0, .null, .null, .int 0, .int 0, .int 0, .int 0, .long 0, .long 0, .int 0, .int 0])), (q_8, .inl (cI, 188, .inl (sp_tabn 17)))] := hD
  refine lv_dup hx hb dX8_init_102 rfl ?_
  refine lv_bipush (v := 17) hx hb dX8_init_103 (by decide) ?_
  refine lv_iconst (v := 5) hx hb dX8_init_105 (by decide) ?_
  refine va_iast hx hb hK hP hD hS 1 0 rfl rfl (vp_in_lit (n := 17) rfl (by decide) (by decide)) dX8_init_106 (fun H locs hP hD hS => ?_)
  have eA : upd (sp_tabn 17) (17 : Int32).toNatClampNeg 5 = sp_tabn 18 := sp_tabn_s (i := 17) (by decide) (by decide)
  rw [eA] at hP hD
  have hP : va_P (dC, dI) vwCl [(m0, .inr (7, [.int 0, .null, .int 0, .int 0, .int 0, .int 0, .null, .null, .int 0, .int 0, .int 0, .int 0, .int 0, .null, .int 0, .int 0, .int 0, .int 0, .int 0, .int 0, .int 0, .null, .null, .int 0, .int 0, .int 0, .int 0, .long 0, .long 0, .int 0, .int 0])), (q_8, .inl (cI, 188, .inl (sp_tabn 18)))] H := hP
  have hD : va_D A [(m0, .inr (7, [.int 0, .null, .int 0, .int 0, .int 0, .int 0, .null, .null, .int 0, .int 0, .int 0, .int 0, .int 0, .null, .int 0, .int 0, .int 0, .int 0, .int 0, .int 0, .int 0, .null, .null, .int 0, .int 0, .int 0, .int 0, .long 0, .long 0, .int 0, .int 0])), (q_8, .inl (cI, 188, .inl (sp_tabn 18)))] := hD
  refine lv_dup hx hb dX8_init_107 rfl ?_
  refine lv_bipush (v := 18) hx hb dX8_init_108 (by decide) ?_
  refine lv_bipush (v := 29) hx hb dX8_init_110 (by decide) ?_
  refine va_iast hx hb hK hP hD hS 1 0 rfl rfl (vp_in_lit (n := 18) rfl (by decide) (by decide)) dX8_init_112 (fun H locs hP hD hS => ?_)
  have eA : upd (sp_tabn 18) (18 : Int32).toNatClampNeg 29 = sp_tabn 19 := sp_tabn_s (i := 18) (by decide) (by decide)
  rw [eA] at hP hD
  have hP : va_P (dC, dI) vwCl [(m0, .inr (7, [.int 0, .null, .int 0, .int 0, .int 0, .int 0, .null, .null, .int 0, .int 0, .int 0, .int 0, .int 0, .null, .int 0, .int 0, .int 0, .int 0, .int 0, .int 0, .int 0, .null, .null, .int 0, .int 0, .int 0, .int 0, .long 0, .long 0, .int 0, .int 0])), (q_8, .inl (cI, 188, .inl (sp_tabn 19)))] H := hP
  have hD : va_D A [(m0, .inr (7, [.int 0, .null, .int 0, .int 0, .int 0, .int 0, .null, .null, .int 0, .int 0, .int 0, .int 0, .int 0, .null, .int 0, .int 0, .int 0, .int 0, .int 0, .int 0, .int 0, .null, .null, .int 0, .int 0, .int 0, .int 0, .long 0, .long 0, .int 0, .int 0])), (q_8, .inl (cI, 188, .inl (sp_tabn 19)))] := hD
  refine lv_dup hx hb dX8_init_113 rfl ?_
  refine lv_bipush (v := 19) hx hb dX8_init_114 (by decide) ?_
  refine lv_iconst (v := 0) hx hb dX8_init_116 (by decide) ?_
  refine va_iast hx hb hK hP hD hS 1 0 rfl rfl (vp_in_lit (n := 19) rfl (by decide) (by decide)) dX8_init_117 (fun H locs hP hD hS => ?_)
  have eA : upd (sp_tabn 19) (19 : Int32).toNatClampNeg 0 = sp_tabn 20 := sp_tabn_s (i := 19) (by decide) (by decide)
  rw [eA] at hP hD
  have hP : va_P (dC, dI) vwCl [(m0, .inr (7, [.int 0, .null, .int 0, .int 0, .int 0, .int 0, .null, .null, .int 0, .int 0, .int 0, .int 0, .int 0, .null, .int 0, .int 0, .int 0, .int 0, .int 0, .int 0, .int 0, .null, .null, .int 0, .int 0, .int 0, .int 0, .long 0, .long 0, .int 0, .int 0])), (q_8, .inl (cI, 188, .inl (sp_tabn 20)))] H := hP
  have hD : va_D A [(m0, .inr (7, [.int 0, .null, .int 0, .int 0, .int 0, .int 0, .null, .null, .int 0, .int 0, .int 0, .int 0, .int 0, .null, .int 0, .int 0, .int 0, .int 0, .int 0, .int 0, .int 0, .null, .null, .int 0, .int 0, .int 0, .int 0, .long 0, .long 0, .int 0, .int 0])), (q_8, .inl (cI, 188, .inl (sp_tabn 20)))] := hD
  refine lv_dup hx hb dX8_init_118 rfl ?_
  refine lv_bipush (v := 20) hx hb dX8_init_119 (by decide) ?_
  refine lv_sipush (v := 545) hx hb dX8_init_121 (by decide) ?_
  refine va_iast hx hb hK hP hD hS 1 0 rfl rfl (vp_in_lit (n := 20) rfl (by decide) (by decide)) dX8_init_124 (fun H locs hP hD hS => ?_)
  have eA : upd (sp_tabn 20) (20 : Int32).toNatClampNeg 545 = sp_tabn 21 := sp_tabn_s (i := 20) (by decide) (by decide)
  rw [eA] at hP hD
  have hP : va_P (dC, dI) vwCl [(m0, .inr (7, [.int 0, .null, .int 0, .int 0, .int 0, .int 0, .null, .null, .int 0, .int 0, .int 0, .int 0, .int 0, .null, .int 0, .int 0, .int 0, .int 0, .int 0, .int 0, .int 0, .null, .null, .int 0, .int 0, .int 0, .int 0, .long 0, .long 0, .int 0, .int 0])), (q_8, .inl (cI, 188, .inl (sp_tabn 21)))] H := hP
  have hD : va_D A [(m0, .inr (7, [.int 0, .null, .int 0, .int 0, .int 0, .int 0, .null, .null, .int 0, .int 0, .int 0, .int 0, .int 0, .null, .int 0, .int 0, .int 0, .int 0, .int 0, .int 0, .int 0, .null, .null, .int 0, .int 0, .int 0, .int 0, .long 0, .long 0, .int 0, .int 0])), (q_8, .inl (cI, 188, .inl (sp_tabn 21)))] := hD
  refine lv_dup hx hb dX8_init_125 rfl ?_
  refine lv_bipush (v := 21) hx hb dX8_init_126 (by decide) ?_
  refine lv_bipush (v := 38) hx hb dX8_init_128 (by decide) ?_
  refine va_iast hx hb hK hP hD hS 1 0 rfl rfl (vp_in_lit (n := 21) rfl (by decide) (by decide)) dX8_init_130 (fun H locs hP hD hS => ?_)
  have eA : upd (sp_tabn 21) (21 : Int32).toNatClampNeg 38 = sp_tabn 22 := sp_tabn_s (i := 21) (by decide) (by decide)
  rw [eA] at hP hD
  have hP : va_P (dC, dI) vwCl [(m0, .inr (7, [.int 0, .null, .int 0, .int 0, .int 0, .int 0, .null, .null, .int 0, .int 0, .int 0, .int 0, .int 0, .null, .int 0, .int 0, .int 0, .int 0, .int 0, .int 0, .int 0, .null, .null, .int 0, .int 0, .int 0, .int 0, .long 0, .long 0, .int 0, .int 0])), (q_8, .inl (cI, 188, .inl (sp_tabn 22)))] H := hP
  have hD : va_D A [(m0, .inr (7, [.int 0, .null, .int 0, .int 0, .int 0, .int 0, .null, .null, .int 0, .int 0, .int 0, .int 0, .int 0, .null, .int 0, .int 0, .int 0, .int 0, .int 0, .int 0, .int 0, .null, .null, .int 0, .int 0, .int 0, .int 0, .long 0, .long 0, .int 0, .int 0])), (q_8, .inl (cI, 188, .inl (sp_tabn 22)))] := hD
  refine lv_dup hx hb dX8_init_131 rfl ?_
  refine lv_bipush (v := 22) hx hb dX8_init_132 (by decide) ?_
  refine lv_bipush (v := 33) hx hb dX8_init_134 (by decide) ?_
  refine va_iast hx hb hK hP hD hS 1 0 rfl rfl (vp_in_lit (n := 22) rfl (by decide) (by decide)) dX8_init_136 (fun H locs hP hD hS => ?_)
  have eA : upd (sp_tabn 22) (22 : Int32).toNatClampNeg 33 = sp_tabn 23 := sp_tabn_s (i := 22) (by decide) (by decide)
  rw [eA] at hP hD
  have hP : va_P (dC, dI) vwCl [(m0, .inr (7, [.int 0, .null, .int 0, .int 0, .int 0, .int 0, .null, .null, .int 0, .int 0, .int 0, .int 0, .int 0, .null, .int 0, .int 0, .int 0, .int 0, .int 0, .int 0, .int 0, .null, .null, .int 0, .int 0, .int 0, .int 0, .long 0, .long 0, .int 0, .int 0])), (q_8, .inl (cI, 188, .inl (sp_tabn 23)))] H := hP
  have hD : va_D A [(m0, .inr (7, [.int 0, .null, .int 0, .int 0, .int 0, .int 0, .null, .null, .int 0, .int 0, .int 0, .int 0, .int 0, .null, .int 0, .int 0, .int 0, .int 0, .int 0, .int 0, .int 0, .null, .null, .int 0, .int 0, .int 0, .int 0, .long 0, .long 0, .int 0, .int 0])), (q_8, .inl (cI, 188, .inl (sp_tabn 23)))] := hD
  refine lv_dup hx hb dX8_init_137 rfl ?_
  refine lv_bipush (v := 23) hx hb dX8_init_138 (by decide) ?_
  refine lv_iconst (v := 0) hx hb dX8_init_140 (by decide) ?_
  refine va_iast hx hb hK hP hD hS 1 0 rfl rfl (vp_in_lit (n := 23) rfl (by decide) (by decide)) dX8_init_141 (fun H locs hP hD hS => ?_)
  have eA : upd (sp_tabn 23) (23 : Int32).toNatClampNeg 0 = sp_tabn 24 := sp_tabn_s (i := 23) (by decide) (by decide)
  rw [eA] at hP hD
  have hP : va_P (dC, dI) vwCl [(m0, .inr (7, [.int 0, .null, .int 0, .int 0, .int 0, .int 0, .null, .null, .int 0, .int 0, .int 0, .int 0, .int 0, .null, .int 0, .int 0, .int 0, .int 0, .int 0, .int 0, .int 0, .null, .null, .int 0, .int 0, .int 0, .int 0, .long 0, .long 0, .int 0, .int 0])), (q_8, .inl (cI, 188, .inl (sp_tabn 24)))] H := hP
  have hD : va_D A [(m0, .inr (7, [.int 0, .null, .int 0, .int 0, .int 0, .int 0, .null, .null, .int 0, .int 0, .int 0, .int 0, .int 0, .null, .int 0, .int 0, .int 0, .int 0, .int 0, .int 0, .int 0, .null, .null, .int 0, .int 0, .int 0, .int 0, .long 0, .long 0, .int 0, .int 0])), (q_8, .inl (cI, 188, .inl (sp_tabn 24)))] := hD
  refine lv_dup hx hb dX8_init_142 rfl ?_
  refine lv_bipush (v := 24) hx hb dX8_init_143 (by decide) ?_
  refine lv_sipush (v := 22017) hx hb dX8_init_145 (by decide) ?_
  refine va_iast hx hb hK hP hD hS 1 0 rfl rfl (vp_in_lit (n := 24) rfl (by decide) (by decide)) dX8_init_148 (fun H locs hP hD hS => ?_)
  have eA : upd (sp_tabn 24) (24 : Int32).toNatClampNeg 22017 = sp_tabn 25 := sp_tabn_s (i := 24) (by decide) (by decide)
  rw [eA] at hP hD
  have hP : va_P (dC, dI) vwCl [(m0, .inr (7, [.int 0, .null, .int 0, .int 0, .int 0, .int 0, .null, .null, .int 0, .int 0, .int 0, .int 0, .int 0, .null, .int 0, .int 0, .int 0, .int 0, .int 0, .int 0, .int 0, .null, .null, .int 0, .int 0, .int 0, .int 0, .long 0, .long 0, .int 0, .int 0])), (q_8, .inl (cI, 188, .inl (sp_tabn 25)))] H := hP
  have hD : va_D A [(m0, .inr (7, [.int 0, .null, .int 0, .int 0, .int 0, .int 0, .null, .null, .int 0, .int 0, .int 0, .int 0, .int 0, .null, .int 0, .int 0, .int 0, .int 0, .int 0, .int 0, .int 0, .null, .null, .int 0, .int 0, .int 0, .int 0, .long 0, .long 0, .int 0, .int 0])), (q_8, .inl (cI, 188, .inl (sp_tabn 25)))] := hD
  refine lv_dup hx hb dX8_init_149 rfl ?_
  refine lv_bipush (v := 25) hx hb dX8_init_150 (by decide) ?_
  refine lv_bipush (v := 7) hx hb dX8_init_152 (by decide) ?_
  refine va_iast hx hb hK hP hD hS 1 0 rfl rfl (vp_in_lit (n := 25) rfl (by decide) (by decide)) dX8_init_154 (fun H locs hP hD hS => ?_)
  have eA : upd (sp_tabn 25) (25 : Int32).toNatClampNeg 7 = sp_tabn 26 := sp_tabn_s (i := 25) (by decide) (by decide)
  rw [eA] at hP hD
  have hP : va_P (dC, dI) vwCl [(m0, .inr (7, [.int 0, .null, .int 0, .int 0, .int 0, .int 0, .null, .null, .int 0, .int 0, .int 0, .int 0, .int 0, .null, .int 0, .int 0, .int 0, .int 0, .int 0, .int 0, .int 0, .null, .null, .int 0, .int 0, .int 0, .int 0, .long 0, .long 0, .int 0, .int 0])), (q_8, .inl (cI, 188, .inl (sp_tabn 26)))] H := hP
  have hD : va_D A [(m0, .inr (7, [.int 0, .null, .int 0, .int 0, .int 0, .int 0, .null, .null, .int 0, .int 0, .int 0, .int 0, .int 0, .null, .int 0, .int 0, .int 0, .int 0, .int 0, .int 0, .int 0, .null, .null, .int 0, .int 0, .int 0, .int 0, .long 0, .long 0, .int 0, .int 0])), (q_8, .inl (cI, 188, .inl (sp_tabn 26)))] := hD
  refine lv_dup hx hb dX8_init_155 rfl ?_
  refine lv_bipush (v := 26) hx hb dX8_init_156 (by decide) ?_
  refine lv_bipush (v := 6) hx hb dX8_init_158 (by decide) ?_
  refine va_iast hx hb hK hP hD hS 1 0 rfl rfl (vp_in_lit (n := 26) rfl (by decide) (by decide)) dX8_init_160 (fun H locs hP hD hS => ?_)
  have eA : upd (sp_tabn 26) (26 : Int32).toNatClampNeg 6 = sp_tabn 27 := sp_tabn_s (i := 26) (by decide) (by decide)
  rw [eA] at hP hD
  have hP : va_P (dC, dI) vwCl [(m0, .inr (7, [.int 0, .null, .int 0, .int 0, .int 0, .int 0, .null, .null, .int 0, .int 0, .int 0, .int 0, .int 0, .null, .int 0, .int 0, .int 0, .int 0, .int 0, .int 0, .int 0, .null, .null, .int 0, .int 0, .int 0, .int 0, .long 0, .long 0, .int 0, .int 0])), (q_8, .inl (cI, 188, .inl (sp_tabn 27)))] H := hP
  have hD : va_D A [(m0, .inr (7, [.int 0, .null, .int 0, .int 0, .int 0, .int 0, .null, .null, .int 0, .int 0, .int 0, .int 0, .int 0, .null, .int 0, .int 0, .int 0, .int 0, .int 0, .int 0, .int 0, .null, .null, .int 0, .int 0, .int 0, .int 0, .long 0, .long 0, .int 0, .int 0])), (q_8, .inl (cI, 188, .inl (sp_tabn 27)))] := hD
  refine lv_dup hx hb dX8_init_161 rfl ?_
  refine lv_bipush (v := 27) hx hb dX8_init_162 (by decide) ?_
  refine lv_iconst (v := 1) hx hb dX8_init_164 (by decide) ?_
  refine va_iast hx hb hK hP hD hS 1 0 rfl rfl (vp_in_lit (n := 27) rfl (by decide) (by decide)) dX8_init_165 (fun H locs hP hD hS => ?_)
  have eA : upd (sp_tabn 27) (27 : Int32).toNatClampNeg 1 = sp_tabn 28 := sp_tabn_s (i := 27) (by decide) (by decide)
  rw [eA] at hP hD
  have hP : va_P (dC, dI) vwCl [(m0, .inr (7, [.int 0, .null, .int 0, .int 0, .int 0, .int 0, .null, .null, .int 0, .int 0, .int 0, .int 0, .int 0, .null, .int 0, .int 0, .int 0, .int 0, .int 0, .int 0, .int 0, .null, .null, .int 0, .int 0, .int 0, .int 0, .long 0, .long 0, .int 0, .int 0])), (q_8, .inl (cI, 188, .inl (sp_tabn 28)))] H := hP
  have hD : va_D A [(m0, .inr (7, [.int 0, .null, .int 0, .int 0, .int 0, .int 0, .null, .null, .int 0, .int 0, .int 0, .int 0, .int 0, .null, .int 0, .int 0, .int 0, .int 0, .int 0, .int 0, .int 0, .null, .null, .int 0, .int 0, .int 0, .int 0, .long 0, .long 0, .int 0, .int 0])), (q_8, .inl (cI, 188, .inl (sp_tabn 28)))] := hD
  refine lv_dup hx hb dX8_init_166 rfl ?_
  refine lv_bipush (v := 28) hx hb dX8_init_167 (by decide) ?_
  refine lv_sipush (v := 21505) hx hb dX8_init_169 (by decide) ?_
  refine va_iast hx hb hK hP hD hS 1 0 rfl rfl (vp_in_lit (n := 28) rfl (by decide) (by decide)) dX8_init_172 (fun H locs hP hD hS => ?_)
  have eA : upd (sp_tabn 28) (28 : Int32).toNatClampNeg 21505 = sp_tabn 29 := sp_tabn_s (i := 28) (by decide) (by decide)
  rw [eA] at hP hD
  have hP : va_P (dC, dI) vwCl [(m0, .inr (7, [.int 0, .null, .int 0, .int 0, .int 0, .int 0, .null, .null, .int 0, .int 0, .int 0, .int 0, .int 0, .null, .int 0, .int 0, .int 0, .int 0, .int 0, .int 0, .int 0, .null, .null, .int 0, .int 0, .int 0, .int 0, .long 0, .long 0, .int 0, .int 0])), (q_8, .inl (cI, 188, .inl (sp_tabn 29)))] H := hP
  have hD : va_D A [(m0, .inr (7, [.int 0, .null, .int 0, .int 0, .int 0, .int 0, .null, .null, .int 0, .int 0, .int 0, .int 0, .int 0, .null, .int 0, .int 0, .int 0, .int 0, .int 0, .int 0, .int 0, .null, .null, .int 0, .int 0, .int 0, .int 0, .long 0, .long 0, .int 0, .int 0])), (q_8, .inl (cI, 188, .inl (sp_tabn 29)))] := hD
  refine lv_dup hx hb dX8_init_173 rfl ?_
  refine lv_bipush (v := 29) hx hb dX8_init_174 (by decide) ?_
  refine lv_bipush (v := 8) hx hb dX8_init_176 (by decide) ?_
  refine va_iast hx hb hK hP hD hS 1 0 rfl rfl (vp_in_lit (n := 29) rfl (by decide) (by decide)) dX8_init_178 (fun H locs hP hD hS => ?_)
  have eA : upd (sp_tabn 29) (29 : Int32).toNatClampNeg 8 = sp_tabn 30 := sp_tabn_s (i := 29) (by decide) (by decide)
  rw [eA] at hP hD
  have hP : va_P (dC, dI) vwCl [(m0, .inr (7, [.int 0, .null, .int 0, .int 0, .int 0, .int 0, .null, .null, .int 0, .int 0, .int 0, .int 0, .int 0, .null, .int 0, .int 0, .int 0, .int 0, .int 0, .int 0, .int 0, .null, .null, .int 0, .int 0, .int 0, .int 0, .long 0, .long 0, .int 0, .int 0])), (q_8, .inl (cI, 188, .inl (sp_tabn 30)))] H := hP
  have hD : va_D A [(m0, .inr (7, [.int 0, .null, .int 0, .int 0, .int 0, .int 0, .null, .null, .int 0, .int 0, .int 0, .int 0, .int 0, .null, .int 0, .int 0, .int 0, .int 0, .int 0, .int 0, .int 0, .null, .null, .int 0, .int 0, .int 0, .int 0, .long 0, .long 0, .int 0, .int 0])), (q_8, .inl (cI, 188, .inl (sp_tabn 30)))] := hD
  refine lv_dup hx hb dX8_init_179 rfl ?_
  refine lv_bipush (v := 30) hx hb dX8_init_180 (by decide) ?_
  refine lv_bipush (v := 14) hx hb dX8_init_182 (by decide) ?_
  refine va_iast hx hb hK hP hD hS 1 0 rfl rfl (vp_in_lit (n := 30) rfl (by decide) (by decide)) dX8_init_184 (fun H locs hP hD hS => ?_)
  have eA : upd (sp_tabn 30) (30 : Int32).toNatClampNeg 14 = sp_tabn 31 := sp_tabn_s (i := 30) (by decide) (by decide)
  rw [eA] at hP hD
  have hP : va_P (dC, dI) vwCl [(m0, .inr (7, [.int 0, .null, .int 0, .int 0, .int 0, .int 0, .null, .null, .int 0, .int 0, .int 0, .int 0, .int 0, .null, .int 0, .int 0, .int 0, .int 0, .int 0, .int 0, .int 0, .null, .null, .int 0, .int 0, .int 0, .int 0, .long 0, .long 0, .int 0, .int 0])), (q_8, .inl (cI, 188, .inl (sp_tabn 31)))] H := hP
  have hD : va_D A [(m0, .inr (7, [.int 0, .null, .int 0, .int 0, .int 0, .int 0, .null, .null, .int 0, .int 0, .int 0, .int 0, .int 0, .null, .int 0, .int 0, .int 0, .int 0, .int 0, .int 0, .int 0, .null, .null, .int 0, .int 0, .int 0, .int 0, .long 0, .long 0, .int 0, .int 0])), (q_8, .inl (cI, 188, .inl (sp_tabn 31)))] := hD
  refine lv_dup hx hb dX8_init_185 rfl ?_
  refine lv_bipush (v := 31) hx hb dX8_init_186 (by decide) ?_
  refine lv_iconst (v := 0) hx hb dX8_init_188 (by decide) ?_
  refine va_iast hx hb hK hP hD hS 1 0 rfl rfl (vp_in_lit (n := 31) rfl (by decide) (by decide)) dX8_init_189 (fun H locs hP hD hS => ?_)
  have eA : upd (sp_tabn 31) (31 : Int32).toNatClampNeg 0 = sp_tabn 32 := sp_tabn_s (i := 31) (by decide) (by decide)
  rw [eA] at hP hD
  have hP : va_P (dC, dI) vwCl [(m0, .inr (7, [.int 0, .null, .int 0, .int 0, .int 0, .int 0, .null, .null, .int 0, .int 0, .int 0, .int 0, .int 0, .null, .int 0, .int 0, .int 0, .int 0, .int 0, .int 0, .int 0, .null, .null, .int 0, .int 0, .int 0, .int 0, .long 0, .long 0, .int 0, .int 0])), (q_8, .inl (cI, 188, .inl (sp_tabn 32)))] H := hP
  have hD : va_D A [(m0, .inr (7, [.int 0, .null, .int 0, .int 0, .int 0, .int 0, .null, .null, .int 0, .int 0, .int 0, .int 0, .int 0, .null, .int 0, .int 0, .int 0, .int 0, .int 0, .int 0, .int 0, .null, .null, .int 0, .int 0, .int 0, .int 0, .long 0, .long 0, .int 0, .int 0])), (q_8, .inl (cI, 188, .inl (sp_tabn 32)))] := hD
  refine lv_dup hx hb dX8_init_190 rfl ?_
  refine lv_bipush (v := 32) hx hb dX8_init_191 (by decide) ?_
  refine lv_sipush (v := 18433) hx hb dX8_init_193 (by decide) ?_
  refine va_iast hx hb hK hP hD hS 1 0 rfl rfl (vp_in_lit (n := 32) rfl (by decide) (by decide)) dX8_init_196 (fun H locs hP hD hS => ?_)
  have eA : upd (sp_tabn 32) (32 : Int32).toNatClampNeg 18433 = sp_tabn 33 := sp_tabn_s (i := 32) (by decide) (by decide)
  rw [eA] at hP hD
  have hP : va_P (dC, dI) vwCl [(m0, .inr (7, [.int 0, .null, .int 0, .int 0, .int 0, .int 0, .null, .null, .int 0, .int 0, .int 0, .int 0, .int 0, .null, .int 0, .int 0, .int 0, .int 0, .int 0, .int 0, .int 0, .null, .null, .int 0, .int 0, .int 0, .int 0, .long 0, .long 0, .int 0, .int 0])), (q_8, .inl (cI, 188, .inl (sp_tabn 33)))] H := hP
  have hD : va_D A [(m0, .inr (7, [.int 0, .null, .int 0, .int 0, .int 0, .int 0, .null, .null, .int 0, .int 0, .int 0, .int 0, .int 0, .null, .int 0, .int 0, .int 0, .int 0, .int 0, .int 0, .int 0, .null, .null, .int 0, .int 0, .int 0, .int 0, .long 0, .long 0, .int 0, .int 0])), (q_8, .inl (cI, 188, .inl (sp_tabn 33)))] := hD
  refine lv_dup hx hb dX8_init_197 rfl ?_
  refine lv_bipush (v := 33) hx hb dX8_init_198 (by decide) ?_
  refine lv_bipush (v := 9) hx hb dX8_init_200 (by decide) ?_
  refine va_iast hx hb hK hP hD hS 1 0 rfl rfl (vp_in_lit (n := 33) rfl (by decide) (by decide)) dX8_init_202 (fun H locs hP hD hS => ?_)
  have eA : upd (sp_tabn 33) (33 : Int32).toNatClampNeg 9 = sp_tabn 34 := sp_tabn_s (i := 33) (by decide) (by decide)
  rw [eA] at hP hD
  have hP : va_P (dC, dI) vwCl [(m0, .inr (7, [.int 0, .null, .int 0, .int 0, .int 0, .int 0, .null, .null, .int 0, .int 0, .int 0, .int 0, .int 0, .null, .int 0, .int 0, .int 0, .int 0, .int 0, .int 0, .int 0, .null, .null, .int 0, .int 0, .int 0, .int 0, .long 0, .long 0, .int 0, .int 0])), (q_8, .inl (cI, 188, .inl (sp_tabn 34)))] H := hP
  have hD : va_D A [(m0, .inr (7, [.int 0, .null, .int 0, .int 0, .int 0, .int 0, .null, .null, .int 0, .int 0, .int 0, .int 0, .int 0, .null, .int 0, .int 0, .int 0, .int 0, .int 0, .int 0, .int 0, .null, .null, .int 0, .int 0, .int 0, .int 0, .long 0, .long 0, .int 0, .int 0])), (q_8, .inl (cI, 188, .inl (sp_tabn 34)))] := hD
  refine lv_dup hx hb dX8_init_203 rfl ?_
  refine lv_bipush (v := 34) hx hb dX8_init_204 (by decide) ?_
  refine lv_bipush (v := 14) hx hb dX8_init_206 (by decide) ?_
  refine va_iast hx hb hK hP hD hS 1 0 rfl rfl (vp_in_lit (n := 34) rfl (by decide) (by decide)) dX8_init_208 (fun H locs hP hD hS => ?_)
  have eA : upd (sp_tabn 34) (34 : Int32).toNatClampNeg 14 = sp_tabn 35 := sp_tabn_s (i := 34) (by decide) (by decide)
  rw [eA] at hP hD
  have hP : va_P (dC, dI) vwCl [(m0, .inr (7, [.int 0, .null, .int 0, .int 0, .int 0, .int 0, .null, .null, .int 0, .int 0, .int 0, .int 0, .int 0, .null, .int 0, .int 0, .int 0, .int 0, .int 0, .int 0, .int 0, .null, .null, .int 0, .int 0, .int 0, .int 0, .long 0, .long 0, .int 0, .int 0])), (q_8, .inl (cI, 188, .inl (sp_tabn 35)))] H := hP
  have hD : va_D A [(m0, .inr (7, [.int 0, .null, .int 0, .int 0, .int 0, .int 0, .null, .null, .int 0, .int 0, .int 0, .int 0, .int 0, .null, .int 0, .int 0, .int 0, .int 0, .int 0, .int 0, .int 0, .null, .null, .int 0, .int 0, .int 0, .int 0, .long 0, .long 0, .int 0, .int 0])), (q_8, .inl (cI, 188, .inl (sp_tabn 35)))] := hD
  refine lv_dup hx hb dX8_init_209 rfl ?_
  refine lv_bipush (v := 35) hx hb dX8_init_210 (by decide) ?_
  refine lv_iconst (v := 0) hx hb dX8_init_212 (by decide) ?_
  refine va_iast hx hb hK hP hD hS 1 0 rfl rfl (vp_in_lit (n := 35) rfl (by decide) (by decide)) dX8_init_213 (fun H locs hP hD hS => ?_)
  have eA : upd (sp_tabn 35) (35 : Int32).toNatClampNeg 0 = sp_tabn 36 := sp_tabn_s (i := 35) (by decide) (by decide)
  rw [eA] at hP hD
  have hP : va_P (dC, dI) vwCl [(m0, .inr (7, [.int 0, .null, .int 0, .int 0, .int 0, .int 0, .null, .null, .int 0, .int 0, .int 0, .int 0, .int 0, .null, .int 0, .int 0, .int 0, .int 0, .int 0, .int 0, .int 0, .null, .null, .int 0, .int 0, .int 0, .int 0, .long 0, .long 0, .int 0, .int 0])), (q_8, .inl (cI, 188, .inl (sp_tabn 36)))] H := hP
  have hD : va_D A [(m0, .inr (7, [.int 0, .null, .int 0, .int 0, .int 0, .int 0, .null, .null, .int 0, .int 0, .int 0, .int 0, .int 0, .null, .int 0, .int 0, .int 0, .int 0, .int 0, .int 0, .int 0, .null, .null, .int 0, .int 0, .int 0, .int 0, .long 0, .long 0, .int 0, .int 0])), (q_8, .inl (cI, 188, .inl (sp_tabn 36)))] := hD
  refine lv_dup hx hb dX8_init_214 rfl ?_
  refine lv_bipush (v := 36) hx hb dX8_init_215 (by decide) ?_
  refine lv_sipush (v := 14337) hx hb dX8_init_217 (by decide) ?_
  refine va_iast hx hb hK hP hD hS 1 0 rfl rfl (vp_in_lit (n := 36) rfl (by decide) (by decide)) dX8_init_220 (fun H locs hP hD hS => ?_)
  have eA : upd (sp_tabn 36) (36 : Int32).toNatClampNeg 14337 = sp_tabn 37 := sp_tabn_s (i := 36) (by decide) (by decide)
  rw [eA] at hP hD
  have hP : va_P (dC, dI) vwCl [(m0, .inr (7, [.int 0, .null, .int 0, .int 0, .int 0, .int 0, .null, .null, .int 0, .int 0, .int 0, .int 0, .int 0, .null, .int 0, .int 0, .int 0, .int 0, .int 0, .int 0, .int 0, .null, .null, .int 0, .int 0, .int 0, .int 0, .long 0, .long 0, .int 0, .int 0])), (q_8, .inl (cI, 188, .inl (sp_tabn 37)))] H := hP
  have hD : va_D A [(m0, .inr (7, [.int 0, .null, .int 0, .int 0, .int 0, .int 0, .null, .null, .int 0, .int 0, .int 0, .int 0, .int 0, .null, .int 0, .int 0, .int 0, .int 0, .int 0, .int 0, .int 0, .null, .null, .int 0, .int 0, .int 0, .int 0, .long 0, .long 0, .int 0, .int 0])), (q_8, .inl (cI, 188, .inl (sp_tabn 37)))] := hD
  refine lv_dup hx hb dX8_init_221 rfl ?_
  refine lv_bipush (v := 37) hx hb dX8_init_222 (by decide) ?_
  refine lv_bipush (v := 10) hx hb dX8_init_224 (by decide) ?_
  refine va_iast hx hb hK hP hD hS 1 0 rfl rfl (vp_in_lit (n := 37) rfl (by decide) (by decide)) dX8_init_226 (fun H locs hP hD hS => ?_)
  have eA : upd (sp_tabn 37) (37 : Int32).toNatClampNeg 10 = sp_tabn 38 := sp_tabn_s (i := 37) (by decide) (by decide)
  rw [eA] at hP hD
  have hP : va_P (dC, dI) vwCl [(m0, .inr (7, [.int 0, .null, .int 0, .int 0, .int 0, .int 0, .null, .null, .int 0, .int 0, .int 0, .int 0, .int 0, .null, .int 0, .int 0, .int 0, .int 0, .int 0, .int 0, .int 0, .null, .null, .int 0, .int 0, .int 0, .int 0, .long 0, .long 0, .int 0, .int 0])), (q_8, .inl (cI, 188, .inl (sp_tabn 38)))] H := hP
  have hD : va_D A [(m0, .inr (7, [.int 0, .null, .int 0, .int 0, .int 0, .int 0, .null, .null, .int 0, .int 0, .int 0, .int 0, .int 0, .null, .int 0, .int 0, .int 0, .int 0, .int 0, .int 0, .int 0, .null, .null, .int 0, .int 0, .int 0, .int 0, .long 0, .long 0, .int 0, .int 0])), (q_8, .inl (cI, 188, .inl (sp_tabn 38)))] := hD
  refine lv_dup hx hb dX8_init_227 rfl ?_
  refine lv_bipush (v := 38) hx hb dX8_init_228 (by decide) ?_
  refine lv_bipush (v := 14) hx hb dX8_init_230 (by decide) ?_
  refine va_iast hx hb hK hP hD hS 1 0 rfl rfl (vp_in_lit (n := 38) rfl (by decide) (by decide)) dX8_init_232 (fun H locs hP hD hS => ?_)
  have eA : upd (sp_tabn 38) (38 : Int32).toNatClampNeg 14 = sp_tabn 39 := sp_tabn_s (i := 38) (by decide) (by decide)
  rw [eA] at hP hD
  have hP : va_P (dC, dI) vwCl [(m0, .inr (7, [.int 0, .null, .int 0, .int 0, .int 0, .int 0, .null, .null, .int 0, .int 0, .int 0, .int 0, .int 0, .null, .int 0, .int 0, .int 0, .int 0, .int 0, .int 0, .int 0, .null, .null, .int 0, .int 0, .int 0, .int 0, .long 0, .long 0, .int 0, .int 0])), (q_8, .inl (cI, 188, .inl (sp_tabn 39)))] H := hP
  have hD : va_D A [(m0, .inr (7, [.int 0, .null, .int 0, .int 0, .int 0, .int 0, .null, .null, .int 0, .int 0, .int 0, .int 0, .int 0, .null, .int 0, .int 0, .int 0, .int 0, .int 0, .int 0, .int 0, .null, .null, .int 0, .int 0, .int 0, .int 0, .long 0, .long 0, .int 0, .int 0])), (q_8, .inl (cI, 188, .inl (sp_tabn 39)))] := hD
  refine lv_dup hx hb dX8_init_233 rfl ?_
  refine lv_bipush (v := 39) hx hb dX8_init_234 (by decide) ?_
  refine lv_iconst (v := 0) hx hb dX8_init_236 (by decide) ?_
  refine va_iast hx hb hK hP hD hS 1 0 rfl rfl (vp_in_lit (n := 39) rfl (by decide) (by decide)) dX8_init_237 (fun H locs hP hD hS => ?_)
  have eA : upd (sp_tabn 39) (39 : Int32).toNatClampNeg 0 = sp_tabn 40 := sp_tabn_s (i := 39) (by decide) (by decide)
  rw [eA] at hP hD
  have hP : va_P (dC, dI) vwCl [(m0, .inr (7, [.int 0, .null, .int 0, .int 0, .int 0, .int 0, .null, .null, .int 0, .int 0, .int 0, .int 0, .int 0, .null, .int 0, .int 0, .int 0, .int 0, .int 0, .int 0, .int 0, .null, .null, .int 0, .int 0, .int 0, .int 0, .long 0, .long 0, .int 0, .int 0])), (q_8, .inl (cI, 188, .inl (sp_tabn 40)))] H := hP
  have hD : va_D A [(m0, .inr (7, [.int 0, .null, .int 0, .int 0, .int 0, .int 0, .null, .null, .int 0, .int 0, .int 0, .int 0, .int 0, .null, .int 0, .int 0, .int 0, .int 0, .int 0, .int 0, .int 0, .null, .null, .int 0, .int 0, .int 0, .int 0, .long 0, .long 0, .int 0, .int 0])), (q_8, .inl (cI, 188, .inl (sp_tabn 40)))] := hD
  refine lv_dup hx hb dX8_init_238 rfl ?_
  refine lv_bipush (v := 40) hx hb dX8_init_239 (by decide) ?_
  refine lv_sipush (v := 12289) hx hb dX8_init_241 (by decide) ?_
  refine va_iast hx hb hK hP hD hS 1 0 rfl rfl (vp_in_lit (n := 40) rfl (by decide) (by decide)) dX8_init_244 (fun H locs hP hD hS => ?_)
  have eA : upd (sp_tabn 40) (40 : Int32).toNatClampNeg 12289 = sp_tabn 41 := sp_tabn_s (i := 40) (by decide) (by decide)
  rw [eA] at hP hD
  have hP : va_P (dC, dI) vwCl [(m0, .inr (7, [.int 0, .null, .int 0, .int 0, .int 0, .int 0, .null, .null, .int 0, .int 0, .int 0, .int 0, .int 0, .null, .int 0, .int 0, .int 0, .int 0, .int 0, .int 0, .int 0, .null, .null, .int 0, .int 0, .int 0, .int 0, .long 0, .long 0, .int 0, .int 0])), (q_8, .inl (cI, 188, .inl (sp_tabn 41)))] H := hP
  have hD : va_D A [(m0, .inr (7, [.int 0, .null, .int 0, .int 0, .int 0, .int 0, .null, .null, .int 0, .int 0, .int 0, .int 0, .int 0, .null, .int 0, .int 0, .int 0, .int 0, .int 0, .int 0, .int 0, .null, .null, .int 0, .int 0, .int 0, .int 0, .long 0, .long 0, .int 0, .int 0])), (q_8, .inl (cI, 188, .inl (sp_tabn 41)))] := hD
  refine lv_dup hx hb dX8_init_245 rfl ?_
  refine lv_bipush (v := 41) hx hb dX8_init_246 (by decide) ?_
  refine lv_bipush (v := 11) hx hb dX8_init_248 (by decide) ?_
  refine va_iast hx hb hK hP hD hS 1 0 rfl rfl (vp_in_lit (n := 41) rfl (by decide) (by decide)) dX8_init_250 (fun H locs hP hD hS => ?_)
  have eA : upd (sp_tabn 41) (41 : Int32).toNatClampNeg 11 = sp_tabn 42 := sp_tabn_s (i := 41) (by decide) (by decide)
  rw [eA] at hP hD
  have hP : va_P (dC, dI) vwCl [(m0, .inr (7, [.int 0, .null, .int 0, .int 0, .int 0, .int 0, .null, .null, .int 0, .int 0, .int 0, .int 0, .int 0, .null, .int 0, .int 0, .int 0, .int 0, .int 0, .int 0, .int 0, .null, .null, .int 0, .int 0, .int 0, .int 0, .long 0, .long 0, .int 0, .int 0])), (q_8, .inl (cI, 188, .inl (sp_tabn 42)))] H := hP
  have hD : va_D A [(m0, .inr (7, [.int 0, .null, .int 0, .int 0, .int 0, .int 0, .null, .null, .int 0, .int 0, .int 0, .int 0, .int 0, .null, .int 0, .int 0, .int 0, .int 0, .int 0, .int 0, .int 0, .null, .null, .int 0, .int 0, .int 0, .int 0, .long 0, .long 0, .int 0, .int 0])), (q_8, .inl (cI, 188, .inl (sp_tabn 42)))] := hD
  refine lv_dup hx hb dX8_init_251 rfl ?_
  refine lv_bipush (v := 42) hx hb dX8_init_252 (by decide) ?_
  refine lv_bipush (v := 17) hx hb dX8_init_254 (by decide) ?_
  refine va_iast hx hb hK hP hD hS 1 0 rfl rfl (vp_in_lit (n := 42) rfl (by decide) (by decide)) dX8_init_256 (fun H locs hP hD hS => ?_)
  have eA : upd (sp_tabn 42) (42 : Int32).toNatClampNeg 17 = sp_tabn 43 := sp_tabn_s (i := 42) (by decide) (by decide)
  rw [eA] at hP hD
  have hP : va_P (dC, dI) vwCl [(m0, .inr (7, [.int 0, .null, .int 0, .int 0, .int 0, .int 0, .null, .null, .int 0, .int 0, .int 0, .int 0, .int 0, .null, .int 0, .int 0, .int 0, .int 0, .int 0, .int 0, .int 0, .null, .null, .int 0, .int 0, .int 0, .int 0, .long 0, .long 0, .int 0, .int 0])), (q_8, .inl (cI, 188, .inl (sp_tabn 43)))] H := hP
  have hD : va_D A [(m0, .inr (7, [.int 0, .null, .int 0, .int 0, .int 0, .int 0, .null, .null, .int 0, .int 0, .int 0, .int 0, .int 0, .null, .int 0, .int 0, .int 0, .int 0, .int 0, .int 0, .int 0, .null, .null, .int 0, .int 0, .int 0, .int 0, .long 0, .long 0, .int 0, .int 0])), (q_8, .inl (cI, 188, .inl (sp_tabn 43)))] := hD
  refine lv_dup hx hb dX8_init_257 rfl ?_
  refine lv_bipush (v := 43) hx hb dX8_init_258 (by decide) ?_
  refine lv_iconst (v := 0) hx hb dX8_init_260 (by decide) ?_
  refine va_iast hx hb hK hP hD hS 1 0 rfl rfl (vp_in_lit (n := 43) rfl (by decide) (by decide)) dX8_init_261 (fun H locs hP hD hS => ?_)
  have eA : upd (sp_tabn 43) (43 : Int32).toNatClampNeg 0 = sp_tabn 44 := sp_tabn_s (i := 43) (by decide) (by decide)
  rw [eA] at hP hD
  have hP : va_P (dC, dI) vwCl [(m0, .inr (7, [.int 0, .null, .int 0, .int 0, .int 0, .int 0, .null, .null, .int 0, .int 0, .int 0, .int 0, .int 0, .null, .int 0, .int 0, .int 0, .int 0, .int 0, .int 0, .int 0, .null, .null, .int 0, .int 0, .int 0, .int 0, .long 0, .long 0, .int 0, .int 0])), (q_8, .inl (cI, 188, .inl (sp_tabn 44)))] H := hP
  have hD : va_D A [(m0, .inr (7, [.int 0, .null, .int 0, .int 0, .int 0, .int 0, .null, .null, .int 0, .int 0, .int 0, .int 0, .int 0, .null, .int 0, .int 0, .int 0, .int 0, .int 0, .int 0, .int 0, .null, .null, .int 0, .int 0, .int 0, .int 0, .long 0, .long 0, .int 0, .int 0])), (q_8, .inl (cI, 188, .inl (sp_tabn 44)))] := hD
  refine lv_dup hx hb dX8_init_262 rfl ?_
  refine lv_bipush (v := 44) hx hb dX8_init_263 (by decide) ?_
  refine lv_sipush (v := 9217) hx hb dX8_init_265 (by decide) ?_
  refine va_iast hx hb hK hP hD hS 1 0 rfl rfl (vp_in_lit (n := 44) rfl (by decide) (by decide)) dX8_init_268 (fun H locs hP hD hS => ?_)
  have eA : upd (sp_tabn 44) (44 : Int32).toNatClampNeg 9217 = sp_tabn 45 := sp_tabn_s (i := 44) (by decide) (by decide)
  rw [eA] at hP hD
  have hP : va_P (dC, dI) vwCl [(m0, .inr (7, [.int 0, .null, .int 0, .int 0, .int 0, .int 0, .null, .null, .int 0, .int 0, .int 0, .int 0, .int 0, .null, .int 0, .int 0, .int 0, .int 0, .int 0, .int 0, .int 0, .null, .null, .int 0, .int 0, .int 0, .int 0, .long 0, .long 0, .int 0, .int 0])), (q_8, .inl (cI, 188, .inl (sp_tabn 45)))] H := hP
  have hD : va_D A [(m0, .inr (7, [.int 0, .null, .int 0, .int 0, .int 0, .int 0, .null, .null, .int 0, .int 0, .int 0, .int 0, .int 0, .null, .int 0, .int 0, .int 0, .int 0, .int 0, .int 0, .int 0, .null, .null, .int 0, .int 0, .int 0, .int 0, .long 0, .long 0, .int 0, .int 0])), (q_8, .inl (cI, 188, .inl (sp_tabn 45)))] := hD
  refine lv_dup hx hb dX8_init_269 rfl ?_
  refine lv_bipush (v := 45) hx hb dX8_init_270 (by decide) ?_
  refine lv_bipush (v := 12) hx hb dX8_init_272 (by decide) ?_
  refine va_iast hx hb hK hP hD hS 1 0 rfl rfl (vp_in_lit (n := 45) rfl (by decide) (by decide)) dX8_init_274 (fun H locs hP hD hS => ?_)
  have eA : upd (sp_tabn 45) (45 : Int32).toNatClampNeg 12 = sp_tabn 46 := sp_tabn_s (i := 45) (by decide) (by decide)
  rw [eA] at hP hD
  have hP : va_P (dC, dI) vwCl [(m0, .inr (7, [.int 0, .null, .int 0, .int 0, .int 0, .int 0, .null, .null, .int 0, .int 0, .int 0, .int 0, .int 0, .null, .int 0, .int 0, .int 0, .int 0, .int 0, .int 0, .int 0, .null, .null, .int 0, .int 0, .int 0, .int 0, .long 0, .long 0, .int 0, .int 0])), (q_8, .inl (cI, 188, .inl (sp_tabn 46)))] H := hP
  have hD : va_D A [(m0, .inr (7, [.int 0, .null, .int 0, .int 0, .int 0, .int 0, .null, .null, .int 0, .int 0, .int 0, .int 0, .int 0, .null, .int 0, .int 0, .int 0, .int 0, .int 0, .int 0, .int 0, .null, .null, .int 0, .int 0, .int 0, .int 0, .long 0, .long 0, .int 0, .int 0])), (q_8, .inl (cI, 188, .inl (sp_tabn 46)))] := hD
  refine lv_dup hx hb dX8_init_275 rfl ?_
  refine lv_bipush (v := 46) hx hb dX8_init_276 (by decide) ?_
  refine lv_bipush (v := 18) hx hb dX8_init_278 (by decide) ?_
  refine va_iast hx hb hK hP hD hS 1 0 rfl rfl (vp_in_lit (n := 46) rfl (by decide) (by decide)) dX8_init_280 (fun H locs hP hD hS => ?_)
  have eA : upd (sp_tabn 46) (46 : Int32).toNatClampNeg 18 = sp_tabn 47 := sp_tabn_s (i := 46) (by decide) (by decide)
  rw [eA] at hP hD
  have hP : va_P (dC, dI) vwCl [(m0, .inr (7, [.int 0, .null, .int 0, .int 0, .int 0, .int 0, .null, .null, .int 0, .int 0, .int 0, .int 0, .int 0, .null, .int 0, .int 0, .int 0, .int 0, .int 0, .int 0, .int 0, .null, .null, .int 0, .int 0, .int 0, .int 0, .long 0, .long 0, .int 0, .int 0])), (q_8, .inl (cI, 188, .inl (sp_tabn 47)))] H := hP
  have hD : va_D A [(m0, .inr (7, [.int 0, .null, .int 0, .int 0, .int 0, .int 0, .null, .null, .int 0, .int 0, .int 0, .int 0, .int 0, .null, .int 0, .int 0, .int 0, .int 0, .int 0, .int 0, .int 0, .null, .null, .int 0, .int 0, .int 0, .int 0, .long 0, .long 0, .int 0, .int 0])), (q_8, .inl (cI, 188, .inl (sp_tabn 47)))] := hD
  refine lv_dup hx hb dX8_init_281 rfl ?_
  refine lv_bipush (v := 47) hx hb dX8_init_282 (by decide) ?_
  refine lv_iconst (v := 0) hx hb dX8_init_284 (by decide) ?_
  refine va_iast hx hb hK hP hD hS 1 0 rfl rfl (vp_in_lit (n := 47) rfl (by decide) (by decide)) dX8_init_285 (fun H locs hP hD hS => ?_)
  have eA : upd (sp_tabn 47) (47 : Int32).toNatClampNeg 0 = sp_tabn 48 := sp_tabn_s (i := 47) (by decide) (by decide)
  rw [eA] at hP hD
  have hP : va_P (dC, dI) vwCl [(m0, .inr (7, [.int 0, .null, .int 0, .int 0, .int 0, .int 0, .null, .null, .int 0, .int 0, .int 0, .int 0, .int 0, .null, .int 0, .int 0, .int 0, .int 0, .int 0, .int 0, .int 0, .null, .null, .int 0, .int 0, .int 0, .int 0, .long 0, .long 0, .int 0, .int 0])), (q_8, .inl (cI, 188, .inl (sp_tabn 48)))] H := hP
  have hD : va_D A [(m0, .inr (7, [.int 0, .null, .int 0, .int 0, .int 0, .int 0, .null, .null, .int 0, .int 0, .int 0, .int 0, .int 0, .null, .int 0, .int 0, .int 0, .int 0, .int 0, .int 0, .int 0, .null, .null, .int 0, .int 0, .int 0, .int 0, .long 0, .long 0, .int 0, .int 0])), (q_8, .inl (cI, 188, .inl (sp_tabn 48)))] := hD
  refine lv_dup hx hb dX8_init_286 rfl ?_
  refine lv_bipush (v := 48) hx hb dX8_init_287 (by decide) ?_
  refine lv_sipush (v := 7169) hx hb dX8_init_289 (by decide) ?_
  refine va_iast hx hb hK hP hD hS 1 0 rfl rfl (vp_in_lit (n := 48) rfl (by decide) (by decide)) dX8_init_292 (fun H locs hP hD hS => ?_)
  have eA : upd (sp_tabn 48) (48 : Int32).toNatClampNeg 7169 = sp_tabn 49 := sp_tabn_s (i := 48) (by decide) (by decide)
  rw [eA] at hP hD
  have hP : va_P (dC, dI) vwCl [(m0, .inr (7, [.int 0, .null, .int 0, .int 0, .int 0, .int 0, .null, .null, .int 0, .int 0, .int 0, .int 0, .int 0, .null, .int 0, .int 0, .int 0, .int 0, .int 0, .int 0, .int 0, .null, .null, .int 0, .int 0, .int 0, .int 0, .long 0, .long 0, .int 0, .int 0])), (q_8, .inl (cI, 188, .inl (sp_tabn 49)))] H := hP
  have hD : va_D A [(m0, .inr (7, [.int 0, .null, .int 0, .int 0, .int 0, .int 0, .null, .null, .int 0, .int 0, .int 0, .int 0, .int 0, .null, .int 0, .int 0, .int 0, .int 0, .int 0, .int 0, .int 0, .null, .null, .int 0, .int 0, .int 0, .int 0, .long 0, .long 0, .int 0, .int 0])), (q_8, .inl (cI, 188, .inl (sp_tabn 49)))] := hD
  refine lv_dup hx hb dX8_init_293 rfl ?_
  refine lv_bipush (v := 49) hx hb dX8_init_294 (by decide) ?_
  refine lv_bipush (v := 13) hx hb dX8_init_296 (by decide) ?_
  refine va_iast hx hb hK hP hD hS 1 0 rfl rfl (vp_in_lit (n := 49) rfl (by decide) (by decide)) dX8_init_298 (fun H locs hP hD hS => ?_)
  have eA : upd (sp_tabn 49) (49 : Int32).toNatClampNeg 13 = sp_tabn 50 := sp_tabn_s (i := 49) (by decide) (by decide)
  rw [eA] at hP hD
  have hP : va_P (dC, dI) vwCl [(m0, .inr (7, [.int 0, .null, .int 0, .int 0, .int 0, .int 0, .null, .null, .int 0, .int 0, .int 0, .int 0, .int 0, .null, .int 0, .int 0, .int 0, .int 0, .int 0, .int 0, .int 0, .null, .null, .int 0, .int 0, .int 0, .int 0, .long 0, .long 0, .int 0, .int 0])), (q_8, .inl (cI, 188, .inl (sp_tabn 50)))] H := hP
  have hD : va_D A [(m0, .inr (7, [.int 0, .null, .int 0, .int 0, .int 0, .int 0, .null, .null, .int 0, .int 0, .int 0, .int 0, .int 0, .null, .int 0, .int 0, .int 0, .int 0, .int 0, .int 0, .int 0, .null, .null, .int 0, .int 0, .int 0, .int 0, .long 0, .long 0, .int 0, .int 0])), (q_8, .inl (cI, 188, .inl (sp_tabn 50)))] := hD
  refine lv_dup hx hb dX8_init_299 rfl ?_
  refine lv_bipush (v := 50) hx hb dX8_init_300 (by decide) ?_
  refine lv_bipush (v := 20) hx hb dX8_init_302 (by decide) ?_
  refine va_iast hx hb hK hP hD hS 1 0 rfl rfl (vp_in_lit (n := 50) rfl (by decide) (by decide)) dX8_init_304 (fun H locs hP hD hS => ?_)
  have eA : upd (sp_tabn 50) (50 : Int32).toNatClampNeg 20 = sp_tabn 51 := sp_tabn_s (i := 50) (by decide) (by decide)
  rw [eA] at hP hD
  have hP : va_P (dC, dI) vwCl [(m0, .inr (7, [.int 0, .null, .int 0, .int 0, .int 0, .int 0, .null, .null, .int 0, .int 0, .int 0, .int 0, .int 0, .null, .int 0, .int 0, .int 0, .int 0, .int 0, .int 0, .int 0, .null, .null, .int 0, .int 0, .int 0, .int 0, .long 0, .long 0, .int 0, .int 0])), (q_8, .inl (cI, 188, .inl (sp_tabn 51)))] H := hP
  have hD : va_D A [(m0, .inr (7, [.int 0, .null, .int 0, .int 0, .int 0, .int 0, .null, .null, .int 0, .int 0, .int 0, .int 0, .int 0, .null, .int 0, .int 0, .int 0, .int 0, .int 0, .int 0, .int 0, .null, .null, .int 0, .int 0, .int 0, .int 0, .long 0, .long 0, .int 0, .int 0])), (q_8, .inl (cI, 188, .inl (sp_tabn 51)))] := hD
  refine lv_dup hx hb dX8_init_305 rfl ?_
  refine lv_bipush (v := 51) hx hb dX8_init_306 (by decide) ?_
  refine lv_iconst (v := 0) hx hb dX8_init_308 (by decide) ?_
  refine va_iast hx hb hK hP hD hS 1 0 rfl rfl (vp_in_lit (n := 51) rfl (by decide) (by decide)) dX8_init_309 (fun H locs hP hD hS => ?_)
  have eA : upd (sp_tabn 51) (51 : Int32).toNatClampNeg 0 = sp_tabn 52 := sp_tabn_s (i := 51) (by decide) (by decide)
  rw [eA] at hP hD
  have hP : va_P (dC, dI) vwCl [(m0, .inr (7, [.int 0, .null, .int 0, .int 0, .int 0, .int 0, .null, .null, .int 0, .int 0, .int 0, .int 0, .int 0, .null, .int 0, .int 0, .int 0, .int 0, .int 0, .int 0, .int 0, .null, .null, .int 0, .int 0, .int 0, .int 0, .long 0, .long 0, .int 0, .int 0])), (q_8, .inl (cI, 188, .inl (sp_tabn 52)))] H := hP
  have hD : va_D A [(m0, .inr (7, [.int 0, .null, .int 0, .int 0, .int 0, .int 0, .null, .null, .int 0, .int 0, .int 0, .int 0, .int 0, .null, .int 0, .int 0, .int 0, .int 0, .int 0, .int 0, .int 0, .null, .null, .int 0, .int 0, .int 0, .int 0, .long 0, .long 0, .int 0, .int 0])), (q_8, .inl (cI, 188, .inl (sp_tabn 52)))] := hD
  refine lv_dup hx hb dX8_init_310 rfl ?_
  refine lv_bipush (v := 52) hx hb dX8_init_311 (by decide) ?_
  refine lv_sipush (v := 5633) hx hb dX8_init_313 (by decide) ?_
  refine va_iast hx hb hK hP hD hS 1 0 rfl rfl (vp_in_lit (n := 52) rfl (by decide) (by decide)) dX8_init_316 (fun H locs hP hD hS => ?_)
  have eA : upd (sp_tabn 52) (52 : Int32).toNatClampNeg 5633 = sp_tabn 53 := sp_tabn_s (i := 52) (by decide) (by decide)
  rw [eA] at hP hD
  have hP : va_P (dC, dI) vwCl [(m0, .inr (7, [.int 0, .null, .int 0, .int 0, .int 0, .int 0, .null, .null, .int 0, .int 0, .int 0, .int 0, .int 0, .null, .int 0, .int 0, .int 0, .int 0, .int 0, .int 0, .int 0, .null, .null, .int 0, .int 0, .int 0, .int 0, .long 0, .long 0, .int 0, .int 0])), (q_8, .inl (cI, 188, .inl (sp_tabn 53)))] H := hP
  have hD : va_D A [(m0, .inr (7, [.int 0, .null, .int 0, .int 0, .int 0, .int 0, .null, .null, .int 0, .int 0, .int 0, .int 0, .int 0, .null, .int 0, .int 0, .int 0, .int 0, .int 0, .int 0, .int 0, .null, .null, .int 0, .int 0, .int 0, .int 0, .long 0, .long 0, .int 0, .int 0])), (q_8, .inl (cI, 188, .inl (sp_tabn 53)))] := hD
  refine lv_dup hx hb dX8_init_317 rfl ?_
  refine lv_bipush (v := 53) hx hb dX8_init_318 (by decide) ?_
  refine lv_bipush (v := 29) hx hb dX8_init_320 (by decide) ?_
  refine va_iast hx hb hK hP hD hS 1 0 rfl rfl (vp_in_lit (n := 53) rfl (by decide) (by decide)) dX8_init_322 (fun H locs hP hD hS => ?_)
  have eA : upd (sp_tabn 53) (53 : Int32).toNatClampNeg 29 = sp_tabn 54 := sp_tabn_s (i := 53) (by decide) (by decide)
  rw [eA] at hP hD
  have hP : va_P (dC, dI) vwCl [(m0, .inr (7, [.int 0, .null, .int 0, .int 0, .int 0, .int 0, .null, .null, .int 0, .int 0, .int 0, .int 0, .int 0, .null, .int 0, .int 0, .int 0, .int 0, .int 0, .int 0, .int 0, .null, .null, .int 0, .int 0, .int 0, .int 0, .long 0, .long 0, .int 0, .int 0])), (q_8, .inl (cI, 188, .inl (sp_tabn 54)))] H := hP
  have hD : va_D A [(m0, .inr (7, [.int 0, .null, .int 0, .int 0, .int 0, .int 0, .null, .null, .int 0, .int 0, .int 0, .int 0, .int 0, .null, .int 0, .int 0, .int 0, .int 0, .int 0, .int 0, .int 0, .null, .null, .int 0, .int 0, .int 0, .int 0, .long 0, .long 0, .int 0, .int 0])), (q_8, .inl (cI, 188, .inl (sp_tabn 54)))] := hD
  refine lv_dup hx hb dX8_init_323 rfl ?_
  refine lv_bipush (v := 54) hx hb dX8_init_324 (by decide) ?_
  refine lv_bipush (v := 21) hx hb dX8_init_326 (by decide) ?_
  refine va_iast hx hb hK hP hD hS 1 0 rfl rfl (vp_in_lit (n := 54) rfl (by decide) (by decide)) dX8_init_328 (fun H locs hP hD hS => ?_)
  have eA : upd (sp_tabn 54) (54 : Int32).toNatClampNeg 21 = sp_tabn 55 := sp_tabn_s (i := 54) (by decide) (by decide)
  rw [eA] at hP hD
  have hP : va_P (dC, dI) vwCl [(m0, .inr (7, [.int 0, .null, .int 0, .int 0, .int 0, .int 0, .null, .null, .int 0, .int 0, .int 0, .int 0, .int 0, .null, .int 0, .int 0, .int 0, .int 0, .int 0, .int 0, .int 0, .null, .null, .int 0, .int 0, .int 0, .int 0, .long 0, .long 0, .int 0, .int 0])), (q_8, .inl (cI, 188, .inl (sp_tabn 55)))] H := hP
  have hD : va_D A [(m0, .inr (7, [.int 0, .null, .int 0, .int 0, .int 0, .int 0, .null, .null, .int 0, .int 0, .int 0, .int 0, .int 0, .null, .int 0, .int 0, .int 0, .int 0, .int 0, .int 0, .int 0, .null, .null, .int 0, .int 0, .int 0, .int 0, .long 0, .long 0, .int 0, .int 0])), (q_8, .inl (cI, 188, .inl (sp_tabn 55)))] := hD
  refine lv_dup hx hb dX8_init_329 rfl ?_
  refine lv_bipush (v := 55) hx hb dX8_init_330 (by decide) ?_
  refine lv_iconst (v := 0) hx hb dX8_init_332 (by decide) ?_
  refine va_iast hx hb hK hP hD hS 1 0 rfl rfl (vp_in_lit (n := 55) rfl (by decide) (by decide)) dX8_init_333 (fun H locs hP hD hS => ?_)
  have eA : upd (sp_tabn 55) (55 : Int32).toNatClampNeg 0 = sp_tabn 56 := sp_tabn_s (i := 55) (by decide) (by decide)
  rw [eA] at hP hD
  have hP : va_P (dC, dI) vwCl [(m0, .inr (7, [.int 0, .null, .int 0, .int 0, .int 0, .int 0, .null, .null, .int 0, .int 0, .int 0, .int 0, .int 0, .null, .int 0, .int 0, .int 0, .int 0, .int 0, .int 0, .int 0, .null, .null, .int 0, .int 0, .int 0, .int 0, .long 0, .long 0, .int 0, .int 0])), (q_8, .inl (cI, 188, .inl (sp_tabn 56)))] H := hP
  have hD : va_D A [(m0, .inr (7, [.int 0, .null, .int 0, .int 0, .int 0, .int 0, .null, .null, .int 0, .int 0, .int 0, .int 0, .int 0, .null, .int 0, .int 0, .int 0, .int 0, .int 0, .int 0, .int 0, .null, .null, .int 0, .int 0, .int 0, .int 0, .long 0, .long 0, .int 0, .int 0])), (q_8, .inl (cI, 188, .inl (sp_tabn 56)))] := hD
  refine lv_dup hx hb dX8_init_334 rfl ?_
  refine lv_bipush (v := 56) hx hb dX8_init_335 (by decide) ?_
  refine lv_sipush (v := 22017) hx hb dX8_init_337 (by decide) ?_
  refine va_iast hx hb hK hP hD hS 1 0 rfl rfl (vp_in_lit (n := 56) rfl (by decide) (by decide)) dX8_init_340 (fun H locs hP hD hS => ?_)
  have eA : upd (sp_tabn 56) (56 : Int32).toNatClampNeg 22017 = sp_tabn 57 := sp_tabn_s (i := 56) (by decide) (by decide)
  rw [eA] at hP hD
  have hP : va_P (dC, dI) vwCl [(m0, .inr (7, [.int 0, .null, .int 0, .int 0, .int 0, .int 0, .null, .null, .int 0, .int 0, .int 0, .int 0, .int 0, .null, .int 0, .int 0, .int 0, .int 0, .int 0, .int 0, .int 0, .null, .null, .int 0, .int 0, .int 0, .int 0, .long 0, .long 0, .int 0, .int 0])), (q_8, .inl (cI, 188, .inl (sp_tabn 57)))] H := hP
  have hD : va_D A [(m0, .inr (7, [.int 0, .null, .int 0, .int 0, .int 0, .int 0, .null, .null, .int 0, .int 0, .int 0, .int 0, .int 0, .null, .int 0, .int 0, .int 0, .int 0, .int 0, .int 0, .int 0, .null, .null, .int 0, .int 0, .int 0, .int 0, .long 0, .long 0, .int 0, .int 0])), (q_8, .inl (cI, 188, .inl (sp_tabn 57)))] := hD
  refine lv_dup hx hb dX8_init_341 rfl ?_
  refine lv_bipush (v := 57) hx hb dX8_init_342 (by decide) ?_
  refine lv_bipush (v := 15) hx hb dX8_init_344 (by decide) ?_
  refine va_iast hx hb hK hP hD hS 1 0 rfl rfl (vp_in_lit (n := 57) rfl (by decide) (by decide)) dX8_init_346 (fun H locs hP hD hS => ?_)
  have eA : upd (sp_tabn 57) (57 : Int32).toNatClampNeg 15 = sp_tabn 58 := sp_tabn_s (i := 57) (by decide) (by decide)
  rw [eA] at hP hD
  have hP : va_P (dC, dI) vwCl [(m0, .inr (7, [.int 0, .null, .int 0, .int 0, .int 0, .int 0, .null, .null, .int 0, .int 0, .int 0, .int 0, .int 0, .null, .int 0, .int 0, .int 0, .int 0, .int 0, .int 0, .int 0, .null, .null, .int 0, .int 0, .int 0, .int 0, .long 0, .long 0, .int 0, .int 0])), (q_8, .inl (cI, 188, .inl (sp_tabn 58)))] H := hP
  have hD : va_D A [(m0, .inr (7, [.int 0, .null, .int 0, .int 0, .int 0, .int 0, .null, .null, .int 0, .int 0, .int 0, .int 0, .int 0, .null, .int 0, .int 0, .int 0, .int 0, .int 0, .int 0, .int 0, .null, .null, .int 0, .int 0, .int 0, .int 0, .long 0, .long 0, .int 0, .int 0])), (q_8, .inl (cI, 188, .inl (sp_tabn 58)))] := hD
  refine lv_dup hx hb dX8_init_347 rfl ?_
  refine lv_bipush (v := 58) hx hb dX8_init_348 (by decide) ?_
  refine lv_bipush (v := 14) hx hb dX8_init_350 (by decide) ?_
  refine va_iast hx hb hK hP hD hS 1 0 rfl rfl (vp_in_lit (n := 58) rfl (by decide) (by decide)) dX8_init_352 (fun H locs hP hD hS => ?_)
  have eA : upd (sp_tabn 58) (58 : Int32).toNatClampNeg 14 = sp_tabn 59 := sp_tabn_s (i := 58) (by decide) (by decide)
  rw [eA] at hP hD
  have hP : va_P (dC, dI) vwCl [(m0, .inr (7, [.int 0, .null, .int 0, .int 0, .int 0, .int 0, .null, .null, .int 0, .int 0, .int 0, .int 0, .int 0, .null, .int 0, .int 0, .int 0, .int 0, .int 0, .int 0, .int 0, .null, .null, .int 0, .int 0, .int 0, .int 0, .long 0, .long 0, .int 0, .int 0])), (q_8, .inl (cI, 188, .inl (sp_tabn 59)))] H := hP
  have hD : va_D A [(m0, .inr (7, [.int 0, .null, .int 0, .int 0, .int 0, .int 0, .null, .null, .int 0, .int 0, .int 0, .int 0, .int 0, .null, .int 0, .int 0, .int 0, .int 0, .int 0, .int 0, .int 0, .null, .null, .int 0, .int 0, .int 0, .int 0, .long 0, .long 0, .int 0, .int 0])), (q_8, .inl (cI, 188, .inl (sp_tabn 59)))] := hD
  refine lv_dup hx hb dX8_init_353 rfl ?_
  refine lv_bipush (v := 59) hx hb dX8_init_354 (by decide) ?_
  refine lv_iconst (v := 1) hx hb dX8_init_356 (by decide) ?_
  refine va_iast hx hb hK hP hD hS 1 0 rfl rfl (vp_in_lit (n := 59) rfl (by decide) (by decide)) dX8_init_357 (fun H locs hP hD hS => ?_)
  have eA : upd (sp_tabn 59) (59 : Int32).toNatClampNeg 1 = sp_tabn 60 := sp_tabn_s (i := 59) (by decide) (by decide)
  rw [eA] at hP hD
  have hP : va_P (dC, dI) vwCl [(m0, .inr (7, [.int 0, .null, .int 0, .int 0, .int 0, .int 0, .null, .null, .int 0, .int 0, .int 0, .int 0, .int 0, .null, .int 0, .int 0, .int 0, .int 0, .int 0, .int 0, .int 0, .null, .null, .int 0, .int 0, .int 0, .int 0, .long 0, .long 0, .int 0, .int 0])), (q_8, .inl (cI, 188, .inl (sp_tabn 60)))] H := hP
  have hD : va_D A [(m0, .inr (7, [.int 0, .null, .int 0, .int 0, .int 0, .int 0, .null, .null, .int 0, .int 0, .int 0, .int 0, .int 0, .null, .int 0, .int 0, .int 0, .int 0, .int 0, .int 0, .int 0, .null, .null, .int 0, .int 0, .int 0, .int 0, .long 0, .long 0, .int 0, .int 0])), (q_8, .inl (cI, 188, .inl (sp_tabn 60)))] := hD
  refine lv_dup hx hb dX8_init_358 rfl ?_
  refine lv_bipush (v := 60) hx hb dX8_init_359 (by decide) ?_
  refine lv_sipush (v := 21505) hx hb dX8_init_361 (by decide) ?_
  refine va_iast hx hb hK hP hD hS 1 0 rfl rfl (vp_in_lit (n := 60) rfl (by decide) (by decide)) dX8_init_364 (fun H locs hP hD hS => ?_)
  have eA : upd (sp_tabn 60) (60 : Int32).toNatClampNeg 21505 = sp_tabn 61 := sp_tabn_s (i := 60) (by decide) (by decide)
  rw [eA] at hP hD
  have hP : va_P (dC, dI) vwCl [(m0, .inr (7, [.int 0, .null, .int 0, .int 0, .int 0, .int 0, .null, .null, .int 0, .int 0, .int 0, .int 0, .int 0, .null, .int 0, .int 0, .int 0, .int 0, .int 0, .int 0, .int 0, .null, .null, .int 0, .int 0, .int 0, .int 0, .long 0, .long 0, .int 0, .int 0])), (q_8, .inl (cI, 188, .inl (sp_tabn 61)))] H := hP
  have hD : va_D A [(m0, .inr (7, [.int 0, .null, .int 0, .int 0, .int 0, .int 0, .null, .null, .int 0, .int 0, .int 0, .int 0, .int 0, .null, .int 0, .int 0, .int 0, .int 0, .int 0, .int 0, .int 0, .null, .null, .int 0, .int 0, .int 0, .int 0, .long 0, .long 0, .int 0, .int 0])), (q_8, .inl (cI, 188, .inl (sp_tabn 61)))] := hD
  refine lv_dup hx hb dX8_init_365 rfl ?_
  refine lv_bipush (v := 61) hx hb dX8_init_366 (by decide) ?_
  refine lv_bipush (v := 16) hx hb dX8_init_368 (by decide) ?_
  refine va_iast hx hb hK hP hD hS 1 0 rfl rfl (vp_in_lit (n := 61) rfl (by decide) (by decide)) dX8_init_370 (fun H locs hP hD hS => ?_)
  have eA : upd (sp_tabn 61) (61 : Int32).toNatClampNeg 16 = sp_tabn 62 := sp_tabn_s (i := 61) (by decide) (by decide)
  rw [eA] at hP hD
  have hP : va_P (dC, dI) vwCl [(m0, .inr (7, [.int 0, .null, .int 0, .int 0, .int 0, .int 0, .null, .null, .int 0, .int 0, .int 0, .int 0, .int 0, .null, .int 0, .int 0, .int 0, .int 0, .int 0, .int 0, .int 0, .null, .null, .int 0, .int 0, .int 0, .int 0, .long 0, .long 0, .int 0, .int 0])), (q_8, .inl (cI, 188, .inl (sp_tabn 62)))] H := hP
  have hD : va_D A [(m0, .inr (7, [.int 0, .null, .int 0, .int 0, .int 0, .int 0, .null, .null, .int 0, .int 0, .int 0, .int 0, .int 0, .null, .int 0, .int 0, .int 0, .int 0, .int 0, .int 0, .int 0, .null, .null, .int 0, .int 0, .int 0, .int 0, .long 0, .long 0, .int 0, .int 0])), (q_8, .inl (cI, 188, .inl (sp_tabn 62)))] := hD
  refine lv_dup hx hb dX8_init_371 rfl ?_
  refine lv_bipush (v := 62) hx hb dX8_init_372 (by decide) ?_
  refine lv_bipush (v := 14) hx hb dX8_init_374 (by decide) ?_
  refine va_iast hx hb hK hP hD hS 1 0 rfl rfl (vp_in_lit (n := 62) rfl (by decide) (by decide)) dX8_init_376 (fun H locs hP hD hS => ?_)
  have eA : upd (sp_tabn 62) (62 : Int32).toNatClampNeg 14 = sp_tabn 63 := sp_tabn_s (i := 62) (by decide) (by decide)
  rw [eA] at hP hD
  have hP : va_P (dC, dI) vwCl [(m0, .inr (7, [.int 0, .null, .int 0, .int 0, .int 0, .int 0, .null, .null, .int 0, .int 0, .int 0, .int 0, .int 0, .null, .int 0, .int 0, .int 0, .int 0, .int 0, .int 0, .int 0, .null, .null, .int 0, .int 0, .int 0, .int 0, .long 0, .long 0, .int 0, .int 0])), (q_8, .inl (cI, 188, .inl (sp_tabn 63)))] H := hP
  have hD : va_D A [(m0, .inr (7, [.int 0, .null, .int 0, .int 0, .int 0, .int 0, .null, .null, .int 0, .int 0, .int 0, .int 0, .int 0, .null, .int 0, .int 0, .int 0, .int 0, .int 0, .int 0, .int 0, .null, .null, .int 0, .int 0, .int 0, .int 0, .long 0, .long 0, .int 0, .int 0])), (q_8, .inl (cI, 188, .inl (sp_tabn 63)))] := hD
  refine lv_dup hx hb dX8_init_377 rfl ?_
  refine lv_bipush (v := 63) hx hb dX8_init_378 (by decide) ?_
  refine lv_iconst (v := 0) hx hb dX8_init_380 (by decide) ?_
  refine va_iast hx hb hK hP hD hS 1 0 rfl rfl (vp_in_lit (n := 63) rfl (by decide) (by decide)) dX8_init_381 (fun H locs hP hD hS => ?_)
  have eA : upd (sp_tabn 63) (63 : Int32).toNatClampNeg 0 = sp_tabn 64 := sp_tabn_s (i := 63) (by decide) (by decide)
  rw [eA] at hP hD
  have hP : va_P (dC, dI) vwCl [(m0, .inr (7, [.int 0, .null, .int 0, .int 0, .int 0, .int 0, .null, .null, .int 0, .int 0, .int 0, .int 0, .int 0, .null, .int 0, .int 0, .int 0, .int 0, .int 0, .int 0, .int 0, .null, .null, .int 0, .int 0, .int 0, .int 0, .long 0, .long 0, .int 0, .int 0])), (q_8, .inl (cI, 188, .inl (sp_tabn 64)))] H := hP
  have hD : va_D A [(m0, .inr (7, [.int 0, .null, .int 0, .int 0, .int 0, .int 0, .null, .null, .int 0, .int 0, .int 0, .int 0, .int 0, .null, .int 0, .int 0, .int 0, .int 0, .int 0, .int 0, .int 0, .null, .null, .int 0, .int 0, .int 0, .int 0, .long 0, .long 0, .int 0, .int 0])), (q_8, .inl (cI, 188, .inl (sp_tabn 64)))] := hD
  refine lv_dup hx hb dX8_init_382 rfl ?_
  refine lv_bipush (v := 64) hx hb dX8_init_383 (by decide) ?_
  refine lv_sipush (v := 20737) hx hb dX8_init_385 (by decide) ?_
  refine va_iast hx hb hK hP hD hS 1 0 rfl rfl (vp_in_lit (n := 64) rfl (by decide) (by decide)) dX8_init_388 (fun H locs hP hD hS => ?_)
  have eA : upd (sp_tabn 64) (64 : Int32).toNatClampNeg 20737 = sp_tabn 65 := sp_tabn_s (i := 64) (by decide) (by decide)
  rw [eA] at hP hD
  have hP : va_P (dC, dI) vwCl [(m0, .inr (7, [.int 0, .null, .int 0, .int 0, .int 0, .int 0, .null, .null, .int 0, .int 0, .int 0, .int 0, .int 0, .null, .int 0, .int 0, .int 0, .int 0, .int 0, .int 0, .int 0, .null, .null, .int 0, .int 0, .int 0, .int 0, .long 0, .long 0, .int 0, .int 0])), (q_8, .inl (cI, 188, .inl (sp_tabn 65)))] H := hP
  have hD : va_D A [(m0, .inr (7, [.int 0, .null, .int 0, .int 0, .int 0, .int 0, .null, .null, .int 0, .int 0, .int 0, .int 0, .int 0, .null, .int 0, .int 0, .int 0, .int 0, .int 0, .int 0, .int 0, .null, .null, .int 0, .int 0, .int 0, .int 0, .long 0, .long 0, .int 0, .int 0])), (q_8, .inl (cI, 188, .inl (sp_tabn 65)))] := hD
  refine lv_dup hx hb dX8_init_389 rfl ?_
  refine lv_bipush (v := 65) hx hb dX8_init_390 (by decide) ?_
  refine lv_bipush (v := 17) hx hb dX8_init_392 (by decide) ?_
  refine va_iast hx hb hK hP hD hS 1 0 rfl rfl (vp_in_lit (n := 65) rfl (by decide) (by decide)) dX8_init_394 (fun H locs hP hD hS => ?_)
  have eA : upd (sp_tabn 65) (65 : Int32).toNatClampNeg 17 = sp_tabn 66 := sp_tabn_s (i := 65) (by decide) (by decide)
  rw [eA] at hP hD
  have hP : va_P (dC, dI) vwCl [(m0, .inr (7, [.int 0, .null, .int 0, .int 0, .int 0, .int 0, .null, .null, .int 0, .int 0, .int 0, .int 0, .int 0, .null, .int 0, .int 0, .int 0, .int 0, .int 0, .int 0, .int 0, .null, .null, .int 0, .int 0, .int 0, .int 0, .long 0, .long 0, .int 0, .int 0])), (q_8, .inl (cI, 188, .inl (sp_tabn 66)))] H := hP
  have hD : va_D A [(m0, .inr (7, [.int 0, .null, .int 0, .int 0, .int 0, .int 0, .null, .null, .int 0, .int 0, .int 0, .int 0, .int 0, .null, .int 0, .int 0, .int 0, .int 0, .int 0, .int 0, .int 0, .null, .null, .int 0, .int 0, .int 0, .int 0, .long 0, .long 0, .int 0, .int 0])), (q_8, .inl (cI, 188, .inl (sp_tabn 66)))] := hD
  refine lv_dup hx hb dX8_init_395 rfl ?_
  refine lv_bipush (v := 66) hx hb dX8_init_396 (by decide) ?_
  refine lv_bipush (v := 15) hx hb dX8_init_398 (by decide) ?_
  refine va_iast hx hb hK hP hD hS 1 0 rfl rfl (vp_in_lit (n := 66) rfl (by decide) (by decide)) dX8_init_400 (fun H locs hP hD hS => ?_)
  have eA : upd (sp_tabn 66) (66 : Int32).toNatClampNeg 15 = sp_tabn 67 := sp_tabn_s (i := 66) (by decide) (by decide)
  rw [eA] at hP hD
  have hP : va_P (dC, dI) vwCl [(m0, .inr (7, [.int 0, .null, .int 0, .int 0, .int 0, .int 0, .null, .null, .int 0, .int 0, .int 0, .int 0, .int 0, .null, .int 0, .int 0, .int 0, .int 0, .int 0, .int 0, .int 0, .null, .null, .int 0, .int 0, .int 0, .int 0, .long 0, .long 0, .int 0, .int 0])), (q_8, .inl (cI, 188, .inl (sp_tabn 67)))] H := hP
  have hD : va_D A [(m0, .inr (7, [.int 0, .null, .int 0, .int 0, .int 0, .int 0, .null, .null, .int 0, .int 0, .int 0, .int 0, .int 0, .null, .int 0, .int 0, .int 0, .int 0, .int 0, .int 0, .int 0, .null, .null, .int 0, .int 0, .int 0, .int 0, .long 0, .long 0, .int 0, .int 0])), (q_8, .inl (cI, 188, .inl (sp_tabn 67)))] := hD
  refine lv_dup hx hb dX8_init_401 rfl ?_
  refine lv_bipush (v := 67) hx hb dX8_init_402 (by decide) ?_
  refine lv_iconst (v := 0) hx hb dX8_init_404 (by decide) ?_
  refine va_iast hx hb hK hP hD hS 1 0 rfl rfl (vp_in_lit (n := 67) rfl (by decide) (by decide)) dX8_init_405 (fun H locs hP hD hS => ?_)
  have eA : upd (sp_tabn 67) (67 : Int32).toNatClampNeg 0 = sp_tabn 68 := sp_tabn_s (i := 67) (by decide) (by decide)
  rw [eA] at hP hD
  have hP : va_P (dC, dI) vwCl [(m0, .inr (7, [.int 0, .null, .int 0, .int 0, .int 0, .int 0, .null, .null, .int 0, .int 0, .int 0, .int 0, .int 0, .null, .int 0, .int 0, .int 0, .int 0, .int 0, .int 0, .int 0, .null, .null, .int 0, .int 0, .int 0, .int 0, .long 0, .long 0, .int 0, .int 0])), (q_8, .inl (cI, 188, .inl (sp_tabn 68)))] H := hP
  have hD : va_D A [(m0, .inr (7, [.int 0, .null, .int 0, .int 0, .int 0, .int 0, .null, .null, .int 0, .int 0, .int 0, .int 0, .int 0, .null, .int 0, .int 0, .int 0, .int 0, .int 0, .int 0, .int 0, .null, .null, .int 0, .int 0, .int 0, .int 0, .long 0, .long 0, .int 0, .int 0])), (q_8, .inl (cI, 188, .inl (sp_tabn 68)))] := hD
  refine lv_dup hx hb dX8_init_406 rfl ?_
  refine lv_bipush (v := 68) hx hb dX8_init_407 (by decide) ?_
  refine lv_sipush (v := 18433) hx hb dX8_init_409 (by decide) ?_
  refine va_iast hx hb hK hP hD hS 1 0 rfl rfl (vp_in_lit (n := 68) rfl (by decide) (by decide)) dX8_init_412 (fun H locs hP hD hS => ?_)
  have eA : upd (sp_tabn 68) (68 : Int32).toNatClampNeg 18433 = sp_tabn 69 := sp_tabn_s (i := 68) (by decide) (by decide)
  rw [eA] at hP hD
  have hP : va_P (dC, dI) vwCl [(m0, .inr (7, [.int 0, .null, .int 0, .int 0, .int 0, .int 0, .null, .null, .int 0, .int 0, .int 0, .int 0, .int 0, .null, .int 0, .int 0, .int 0, .int 0, .int 0, .int 0, .int 0, .null, .null, .int 0, .int 0, .int 0, .int 0, .long 0, .long 0, .int 0, .int 0])), (q_8, .inl (cI, 188, .inl (sp_tabn 69)))] H := hP
  have hD : va_D A [(m0, .inr (7, [.int 0, .null, .int 0, .int 0, .int 0, .int 0, .null, .null, .int 0, .int 0, .int 0, .int 0, .int 0, .null, .int 0, .int 0, .int 0, .int 0, .int 0, .int 0, .int 0, .null, .null, .int 0, .int 0, .int 0, .int 0, .long 0, .long 0, .int 0, .int 0])), (q_8, .inl (cI, 188, .inl (sp_tabn 69)))] := hD
  refine lv_dup hx hb dX8_init_413 rfl ?_
  refine lv_bipush (v := 69) hx hb dX8_init_414 (by decide) ?_
  refine lv_bipush (v := 18) hx hb dX8_init_416 (by decide) ?_
  refine va_iast hx hb hK hP hD hS 1 0 rfl rfl (vp_in_lit (n := 69) rfl (by decide) (by decide)) dX8_init_418 (fun H locs hP hD hS => ?_)
  have eA : upd (sp_tabn 69) (69 : Int32).toNatClampNeg 18 = sp_tabn 70 := sp_tabn_s (i := 69) (by decide) (by decide)
  rw [eA] at hP hD
  have hP : va_P (dC, dI) vwCl [(m0, .inr (7, [.int 0, .null, .int 0, .int 0, .int 0, .int 0, .null, .null, .int 0, .int 0, .int 0, .int 0, .int 0, .null, .int 0, .int 0, .int 0, .int 0, .int 0, .int 0, .int 0, .null, .null, .int 0, .int 0, .int 0, .int 0, .long 0, .long 0, .int 0, .int 0])), (q_8, .inl (cI, 188, .inl (sp_tabn 70)))] H := hP
  have hD : va_D A [(m0, .inr (7, [.int 0, .null, .int 0, .int 0, .int 0, .int 0, .null, .null, .int 0, .int 0, .int 0, .int 0, .int 0, .null, .int 0, .int 0, .int 0, .int 0, .int 0, .int 0, .int 0, .null, .null, .int 0, .int 0, .int 0, .int 0, .long 0, .long 0, .int 0, .int 0])), (q_8, .inl (cI, 188, .inl (sp_tabn 70)))] := hD
  refine lv_dup hx hb dX8_init_419 rfl ?_
  refine lv_bipush (v := 70) hx hb dX8_init_420 (by decide) ?_
  refine lv_bipush (v := 16) hx hb dX8_init_422 (by decide) ?_
  refine va_iast hx hb hK hP hD hS 1 0 rfl rfl (vp_in_lit (n := 70) rfl (by decide) (by decide)) dX8_init_424 (fun H locs hP hD hS => ?_)
  have eA : upd (sp_tabn 70) (70 : Int32).toNatClampNeg 16 = sp_tabn 71 := sp_tabn_s (i := 70) (by decide) (by decide)
  rw [eA] at hP hD
  have hP : va_P (dC, dI) vwCl [(m0, .inr (7, [.int 0, .null, .int 0, .int 0, .int 0, .int 0, .null, .null, .int 0, .int 0, .int 0, .int 0, .int 0, .null, .int 0, .int 0, .int 0, .int 0, .int 0, .int 0, .int 0, .null, .null, .int 0, .int 0, .int 0, .int 0, .long 0, .long 0, .int 0, .int 0])), (q_8, .inl (cI, 188, .inl (sp_tabn 71)))] H := hP
  have hD : va_D A [(m0, .inr (7, [.int 0, .null, .int 0, .int 0, .int 0, .int 0, .null, .null, .int 0, .int 0, .int 0, .int 0, .int 0, .null, .int 0, .int 0, .int 0, .int 0, .int 0, .int 0, .int 0, .null, .null, .int 0, .int 0, .int 0, .int 0, .long 0, .long 0, .int 0, .int 0])), (q_8, .inl (cI, 188, .inl (sp_tabn 71)))] := hD
  refine lv_dup hx hb dX8_init_425 rfl ?_
  refine lv_bipush (v := 71) hx hb dX8_init_426 (by decide) ?_
  refine lv_iconst (v := 0) hx hb dX8_init_428 (by decide) ?_
  refine va_iast hx hb hK hP hD hS 1 0 rfl rfl (vp_in_lit (n := 71) rfl (by decide) (by decide)) dX8_init_429 (fun H locs hP hD hS => ?_)
  have eA : upd (sp_tabn 71) (71 : Int32).toNatClampNeg 0 = sp_tabn 72 := sp_tabn_s (i := 71) (by decide) (by decide)
  rw [eA] at hP hD
  have hP : va_P (dC, dI) vwCl [(m0, .inr (7, [.int 0, .null, .int 0, .int 0, .int 0, .int 0, .null, .null, .int 0, .int 0, .int 0, .int 0, .int 0, .null, .int 0, .int 0, .int 0, .int 0, .int 0, .int 0, .int 0, .null, .null, .int 0, .int 0, .int 0, .int 0, .long 0, .long 0, .int 0, .int 0])), (q_8, .inl (cI, 188, .inl (sp_tabn 72)))] H := hP
  have hD : va_D A [(m0, .inr (7, [.int 0, .null, .int 0, .int 0, .int 0, .int 0, .null, .null, .int 0, .int 0, .int 0, .int 0, .int 0, .null, .int 0, .int 0, .int 0, .int 0, .int 0, .int 0, .int 0, .null, .null, .int 0, .int 0, .int 0, .int 0, .long 0, .long 0, .int 0, .int 0])), (q_8, .inl (cI, 188, .inl (sp_tabn 72)))] := hD
  refine lv_dup hx hb dX8_init_430 rfl ?_
  refine lv_bipush (v := 72) hx hb dX8_init_431 (by decide) ?_
  refine lv_sipush (v := 14337) hx hb dX8_init_433 (by decide) ?_
  refine va_iast hx hb hK hP hD hS 1 0 rfl rfl (vp_in_lit (n := 72) rfl (by decide) (by decide)) dX8_init_436 (fun H locs hP hD hS => ?_)
  have eA : upd (sp_tabn 72) (72 : Int32).toNatClampNeg 14337 = sp_tabn 73 := sp_tabn_s (i := 72) (by decide) (by decide)
  rw [eA] at hP hD
  have hP : va_P (dC, dI) vwCl [(m0, .inr (7, [.int 0, .null, .int 0, .int 0, .int 0, .int 0, .null, .null, .int 0, .int 0, .int 0, .int 0, .int 0, .null, .int 0, .int 0, .int 0, .int 0, .int 0, .int 0, .int 0, .null, .null, .int 0, .int 0, .int 0, .int 0, .long 0, .long 0, .int 0, .int 0])), (q_8, .inl (cI, 188, .inl (sp_tabn 73)))] H := hP
  have hD : va_D A [(m0, .inr (7, [.int 0, .null, .int 0, .int 0, .int 0, .int 0, .null, .null, .int 0, .int 0, .int 0, .int 0, .int 0, .null, .int 0, .int 0, .int 0, .int 0, .int 0, .int 0, .int 0, .null, .null, .int 0, .int 0, .int 0, .int 0, .long 0, .long 0, .int 0, .int 0])), (q_8, .inl (cI, 188, .inl (sp_tabn 73)))] := hD
  refine lv_dup hx hb dX8_init_437 rfl ?_
  refine lv_bipush (v := 73) hx hb dX8_init_438 (by decide) ?_
  refine lv_bipush (v := 19) hx hb dX8_init_440 (by decide) ?_
  refine va_iast hx hb hK hP hD hS 1 0 rfl rfl (vp_in_lit (n := 73) rfl (by decide) (by decide)) dX8_init_442 (fun H locs hP hD hS => ?_)
  have eA : upd (sp_tabn 73) (73 : Int32).toNatClampNeg 19 = sp_tabn 74 := sp_tabn_s (i := 73) (by decide) (by decide)
  rw [eA] at hP hD
  have hP : va_P (dC, dI) vwCl [(m0, .inr (7, [.int 0, .null, .int 0, .int 0, .int 0, .int 0, .null, .null, .int 0, .int 0, .int 0, .int 0, .int 0, .null, .int 0, .int 0, .int 0, .int 0, .int 0, .int 0, .int 0, .null, .null, .int 0, .int 0, .int 0, .int 0, .long 0, .long 0, .int 0, .int 0])), (q_8, .inl (cI, 188, .inl (sp_tabn 74)))] H := hP
  have hD : va_D A [(m0, .inr (7, [.int 0, .null, .int 0, .int 0, .int 0, .int 0, .null, .null, .int 0, .int 0, .int 0, .int 0, .int 0, .null, .int 0, .int 0, .int 0, .int 0, .int 0, .int 0, .int 0, .null, .null, .int 0, .int 0, .int 0, .int 0, .long 0, .long 0, .int 0, .int 0])), (q_8, .inl (cI, 188, .inl (sp_tabn 74)))] := hD
  refine lv_dup hx hb dX8_init_443 rfl ?_
  refine lv_bipush (v := 74) hx hb dX8_init_444 (by decide) ?_
  refine lv_bipush (v := 17) hx hb dX8_init_446 (by decide) ?_
  refine va_iast hx hb hK hP hD hS 1 0 rfl rfl (vp_in_lit (n := 74) rfl (by decide) (by decide)) dX8_init_448 (fun H locs hP hD hS => ?_)
  have eA : upd (sp_tabn 74) (74 : Int32).toNatClampNeg 17 = sp_tabn 75 := sp_tabn_s (i := 74) (by decide) (by decide)
  rw [eA] at hP hD
  have hP : va_P (dC, dI) vwCl [(m0, .inr (7, [.int 0, .null, .int 0, .int 0, .int 0, .int 0, .null, .null, .int 0, .int 0, .int 0, .int 0, .int 0, .null, .int 0, .int 0, .int 0, .int 0, .int 0, .int 0, .int 0, .null, .null, .int 0, .int 0, .int 0, .int 0, .long 0, .long 0, .int 0, .int 0])), (q_8, .inl (cI, 188, .inl (sp_tabn 75)))] H := hP
  have hD : va_D A [(m0, .inr (7, [.int 0, .null, .int 0, .int 0, .int 0, .int 0, .null, .null, .int 0, .int 0, .int 0, .int 0, .int 0, .null, .int 0, .int 0, .int 0, .int 0, .int 0, .int 0, .int 0, .null, .null, .int 0, .int 0, .int 0, .int 0, .long 0, .long 0, .int 0, .int 0])), (q_8, .inl (cI, 188, .inl (sp_tabn 75)))] := hD
  refine lv_dup hx hb dX8_init_449 rfl ?_
  refine lv_bipush (v := 75) hx hb dX8_init_450 (by decide) ?_
  refine lv_iconst (v := 0) hx hb dX8_init_452 (by decide) ?_
  refine va_iast hx hb hK hP hD hS 1 0 rfl rfl (vp_in_lit (n := 75) rfl (by decide) (by decide)) dX8_init_453 (fun H locs hP hD hS => ?_)
  have eA : upd (sp_tabn 75) (75 : Int32).toNatClampNeg 0 = sp_tabn 76 := sp_tabn_s (i := 75) (by decide) (by decide)
  rw [eA] at hP hD
  have hP : va_P (dC, dI) vwCl [(m0, .inr (7, [.int 0, .null, .int 0, .int 0, .int 0, .int 0, .null, .null, .int 0, .int 0, .int 0, .int 0, .int 0, .null, .int 0, .int 0, .int 0, .int 0, .int 0, .int 0, .int 0, .null, .null, .int 0, .int 0, .int 0, .int 0, .long 0, .long 0, .int 0, .int 0])), (q_8, .inl (cI, 188, .inl (sp_tabn 76)))] H := hP
  have hD : va_D A [(m0, .inr (7, [.int 0, .null, .int 0, .int 0, .int 0, .int 0, .null, .null, .int 0, .int 0, .int 0, .int 0, .int 0, .null, .int 0, .int 0, .int 0, .int 0, .int 0, .int 0, .int 0, .null, .null, .int 0, .int 0, .int 0, .int 0, .long 0, .long 0, .int 0, .int 0])), (q_8, .inl (cI, 188, .inl (sp_tabn 76)))] := hD
  refine lv_dup hx hb dX8_init_454 rfl ?_
  refine lv_bipush (v := 76) hx hb dX8_init_455 (by decide) ?_
  refine lv_sipush (v := 13313) hx hb dX8_init_457 (by decide) ?_
  refine va_iast hx hb hK hP hD hS 1 0 rfl rfl (vp_in_lit (n := 76) rfl (by decide) (by decide)) dX8_init_460 (fun H locs hP hD hS => ?_)
  have eA : upd (sp_tabn 76) (76 : Int32).toNatClampNeg 13313 = sp_tabn 77 := sp_tabn_s (i := 76) (by decide) (by decide)
  rw [eA] at hP hD
  have hP : va_P (dC, dI) vwCl [(m0, .inr (7, [.int 0, .null, .int 0, .int 0, .int 0, .int 0, .null, .null, .int 0, .int 0, .int 0, .int 0, .int 0, .null, .int 0, .int 0, .int 0, .int 0, .int 0, .int 0, .int 0, .null, .null, .int 0, .int 0, .int 0, .int 0, .long 0, .long 0, .int 0, .int 0])), (q_8, .inl (cI, 188, .inl (sp_tabn 77)))] H := hP
  have hD : va_D A [(m0, .inr (7, [.int 0, .null, .int 0, .int 0, .int 0, .int 0, .null, .null, .int 0, .int 0, .int 0, .int 0, .int 0, .null, .int 0, .int 0, .int 0, .int 0, .int 0, .int 0, .int 0, .null, .null, .int 0, .int 0, .int 0, .int 0, .long 0, .long 0, .int 0, .int 0])), (q_8, .inl (cI, 188, .inl (sp_tabn 77)))] := hD
  refine lv_dup hx hb dX8_init_461 rfl ?_
  refine lv_bipush (v := 77) hx hb dX8_init_462 (by decide) ?_
  refine lv_bipush (v := 20) hx hb dX8_init_464 (by decide) ?_
  refine va_iast hx hb hK hP hD hS 1 0 rfl rfl (vp_in_lit (n := 77) rfl (by decide) (by decide)) dX8_init_466 (fun H locs hP hD hS => ?_)
  have eA : upd (sp_tabn 77) (77 : Int32).toNatClampNeg 20 = sp_tabn 78 := sp_tabn_s (i := 77) (by decide) (by decide)
  rw [eA] at hP hD
  have hP : va_P (dC, dI) vwCl [(m0, .inr (7, [.int 0, .null, .int 0, .int 0, .int 0, .int 0, .null, .null, .int 0, .int 0, .int 0, .int 0, .int 0, .null, .int 0, .int 0, .int 0, .int 0, .int 0, .int 0, .int 0, .null, .null, .int 0, .int 0, .int 0, .int 0, .long 0, .long 0, .int 0, .int 0])), (q_8, .inl (cI, 188, .inl (sp_tabn 78)))] H := hP
  have hD : va_D A [(m0, .inr (7, [.int 0, .null, .int 0, .int 0, .int 0, .int 0, .null, .null, .int 0, .int 0, .int 0, .int 0, .int 0, .null, .int 0, .int 0, .int 0, .int 0, .int 0, .int 0, .int 0, .null, .null, .int 0, .int 0, .int 0, .int 0, .long 0, .long 0, .int 0, .int 0])), (q_8, .inl (cI, 188, .inl (sp_tabn 78)))] := hD
  refine lv_dup hx hb dX8_init_467 rfl ?_
  refine lv_bipush (v := 78) hx hb dX8_init_468 (by decide) ?_
  refine lv_bipush (v := 18) hx hb dX8_init_470 (by decide) ?_
  refine va_iast hx hb hK hP hD hS 1 0 rfl rfl (vp_in_lit (n := 78) rfl (by decide) (by decide)) dX8_init_472 (fun H locs hP hD hS => ?_)
  have eA : upd (sp_tabn 78) (78 : Int32).toNatClampNeg 18 = sp_tabn 79 := sp_tabn_s (i := 78) (by decide) (by decide)
  rw [eA] at hP hD
  have hP : va_P (dC, dI) vwCl [(m0, .inr (7, [.int 0, .null, .int 0, .int 0, .int 0, .int 0, .null, .null, .int 0, .int 0, .int 0, .int 0, .int 0, .null, .int 0, .int 0, .int 0, .int 0, .int 0, .int 0, .int 0, .null, .null, .int 0, .int 0, .int 0, .int 0, .long 0, .long 0, .int 0, .int 0])), (q_8, .inl (cI, 188, .inl (sp_tabn 79)))] H := hP
  have hD : va_D A [(m0, .inr (7, [.int 0, .null, .int 0, .int 0, .int 0, .int 0, .null, .null, .int 0, .int 0, .int 0, .int 0, .int 0, .null, .int 0, .int 0, .int 0, .int 0, .int 0, .int 0, .int 0, .null, .null, .int 0, .int 0, .int 0, .int 0, .long 0, .long 0, .int 0, .int 0])), (q_8, .inl (cI, 188, .inl (sp_tabn 79)))] := hD
  refine lv_dup hx hb dX8_init_473 rfl ?_
  refine lv_bipush (v := 79) hx hb dX8_init_474 (by decide) ?_
  refine lv_iconst (v := 0) hx hb dX8_init_476 (by decide) ?_
  refine va_iast hx hb hK hP hD hS 1 0 rfl rfl (vp_in_lit (n := 79) rfl (by decide) (by decide)) dX8_init_477 (fun H locs hP hD hS => ?_)
  have eA : upd (sp_tabn 79) (79 : Int32).toNatClampNeg 0 = sp_tabn 80 := sp_tabn_s (i := 79) (by decide) (by decide)
  rw [eA] at hP hD
  have hP : va_P (dC, dI) vwCl [(m0, .inr (7, [.int 0, .null, .int 0, .int 0, .int 0, .int 0, .null, .null, .int 0, .int 0, .int 0, .int 0, .int 0, .null, .int 0, .int 0, .int 0, .int 0, .int 0, .int 0, .int 0, .null, .null, .int 0, .int 0, .int 0, .int 0, .long 0, .long 0, .int 0, .int 0])), (q_8, .inl (cI, 188, .inl (sp_tabn 80)))] H := hP
  have hD : va_D A [(m0, .inr (7, [.int 0, .null, .int 0, .int 0, .int 0, .int 0, .null, .null, .int 0, .int 0, .int 0, .int 0, .int 0, .null, .int 0, .int 0, .int 0, .int 0, .int 0, .int 0, .int 0, .null, .null, .int 0, .int 0, .int 0, .int 0, .long 0, .long 0, .int 0, .int 0])), (q_8, .inl (cI, 188, .inl (sp_tabn 80)))] := hD
  refine lv_dup hx hb dX8_init_478 rfl ?_
  refine lv_bipush (v := 80) hx hb dX8_init_479 (by decide) ?_
  refine lv_sipush (v := 12289) hx hb dX8_init_481 (by decide) ?_
  refine va_iast hx hb hK hP hD hS 1 0 rfl rfl (vp_in_lit (n := 80) rfl (by decide) (by decide)) dX8_init_484 (fun H locs hP hD hS => ?_)
  have eA : upd (sp_tabn 80) (80 : Int32).toNatClampNeg 12289 = sp_tabn 81 := sp_tabn_s (i := 80) (by decide) (by decide)
  rw [eA] at hP hD
  have hP : va_P (dC, dI) vwCl [(m0, .inr (7, [.int 0, .null, .int 0, .int 0, .int 0, .int 0, .null, .null, .int 0, .int 0, .int 0, .int 0, .int 0, .null, .int 0, .int 0, .int 0, .int 0, .int 0, .int 0, .int 0, .null, .null, .int 0, .int 0, .int 0, .int 0, .long 0, .long 0, .int 0, .int 0])), (q_8, .inl (cI, 188, .inl (sp_tabn 81)))] H := hP
  have hD : va_D A [(m0, .inr (7, [.int 0, .null, .int 0, .int 0, .int 0, .int 0, .null, .null, .int 0, .int 0, .int 0, .int 0, .int 0, .null, .int 0, .int 0, .int 0, .int 0, .int 0, .int 0, .int 0, .null, .null, .int 0, .int 0, .int 0, .int 0, .long 0, .long 0, .int 0, .int 0])), (q_8, .inl (cI, 188, .inl (sp_tabn 81)))] := hD
  refine lv_dup hx hb dX8_init_485 rfl ?_
  refine lv_bipush (v := 81) hx hb dX8_init_486 (by decide) ?_
  refine lv_bipush (v := 21) hx hb dX8_init_488 (by decide) ?_
  refine va_iast hx hb hK hP hD hS 1 0 rfl rfl (vp_in_lit (n := 81) rfl (by decide) (by decide)) dX8_init_490 (fun H locs hP hD hS => ?_)
  have eA : upd (sp_tabn 81) (81 : Int32).toNatClampNeg 21 = sp_tabn 82 := sp_tabn_s (i := 81) (by decide) (by decide)
  rw [eA] at hP hD
  have hP : va_P (dC, dI) vwCl [(m0, .inr (7, [.int 0, .null, .int 0, .int 0, .int 0, .int 0, .null, .null, .int 0, .int 0, .int 0, .int 0, .int 0, .null, .int 0, .int 0, .int 0, .int 0, .int 0, .int 0, .int 0, .null, .null, .int 0, .int 0, .int 0, .int 0, .long 0, .long 0, .int 0, .int 0])), (q_8, .inl (cI, 188, .inl (sp_tabn 82)))] H := hP
  have hD : va_D A [(m0, .inr (7, [.int 0, .null, .int 0, .int 0, .int 0, .int 0, .null, .null, .int 0, .int 0, .int 0, .int 0, .int 0, .null, .int 0, .int 0, .int 0, .int 0, .int 0, .int 0, .int 0, .null, .null, .int 0, .int 0, .int 0, .int 0, .long 0, .long 0, .int 0, .int 0])), (q_8, .inl (cI, 188, .inl (sp_tabn 82)))] := hD
  refine lv_dup hx hb dX8_init_491 rfl ?_
  refine lv_bipush (v := 82) hx hb dX8_init_492 (by decide) ?_
  refine lv_bipush (v := 19) hx hb dX8_init_494 (by decide) ?_
  refine va_iast hx hb hK hP hD hS 1 0 rfl rfl (vp_in_lit (n := 82) rfl (by decide) (by decide)) dX8_init_496 (fun H locs hP hD hS => ?_)
  have eA : upd (sp_tabn 82) (82 : Int32).toNatClampNeg 19 = sp_tabn 83 := sp_tabn_s (i := 82) (by decide) (by decide)
  rw [eA] at hP hD
  have hP : va_P (dC, dI) vwCl [(m0, .inr (7, [.int 0, .null, .int 0, .int 0, .int 0, .int 0, .null, .null, .int 0, .int 0, .int 0, .int 0, .int 0, .null, .int 0, .int 0, .int 0, .int 0, .int 0, .int 0, .int 0, .null, .null, .int 0, .int 0, .int 0, .int 0, .long 0, .long 0, .int 0, .int 0])), (q_8, .inl (cI, 188, .inl (sp_tabn 83)))] H := hP
  have hD : va_D A [(m0, .inr (7, [.int 0, .null, .int 0, .int 0, .int 0, .int 0, .null, .null, .int 0, .int 0, .int 0, .int 0, .int 0, .null, .int 0, .int 0, .int 0, .int 0, .int 0, .int 0, .int 0, .null, .null, .int 0, .int 0, .int 0, .int 0, .long 0, .long 0, .int 0, .int 0])), (q_8, .inl (cI, 188, .inl (sp_tabn 83)))] := hD
  refine lv_dup hx hb dX8_init_497 rfl ?_
  refine lv_bipush (v := 83) hx hb dX8_init_498 (by decide) ?_
  refine lv_iconst (v := 0) hx hb dX8_init_500 (by decide) ?_
  refine va_iast hx hb hK hP hD hS 1 0 rfl rfl (vp_in_lit (n := 83) rfl (by decide) (by decide)) dX8_init_501 (fun H locs hP hD hS => ?_)
  have eA : upd (sp_tabn 83) (83 : Int32).toNatClampNeg 0 = sp_tabn 84 := sp_tabn_s (i := 83) (by decide) (by decide)
  rw [eA] at hP hD
  have hP : va_P (dC, dI) vwCl [(m0, .inr (7, [.int 0, .null, .int 0, .int 0, .int 0, .int 0, .null, .null, .int 0, .int 0, .int 0, .int 0, .int 0, .null, .int 0, .int 0, .int 0, .int 0, .int 0, .int 0, .int 0, .null, .null, .int 0, .int 0, .int 0, .int 0, .long 0, .long 0, .int 0, .int 0])), (q_8, .inl (cI, 188, .inl (sp_tabn 84)))] H := hP
  have hD : va_D A [(m0, .inr (7, [.int 0, .null, .int 0, .int 0, .int 0, .int 0, .null, .null, .int 0, .int 0, .int 0, .int 0, .int 0, .null, .int 0, .int 0, .int 0, .int 0, .int 0, .int 0, .int 0, .null, .null, .int 0, .int 0, .int 0, .int 0, .long 0, .long 0, .int 0, .int 0])), (q_8, .inl (cI, 188, .inl (sp_tabn 84)))] := hD
  refine lv_dup hx hb dX8_init_502 rfl ?_
  refine lv_bipush (v := 84) hx hb dX8_init_503 (by decide) ?_
  refine lv_sipush (v := 10241) hx hb dX8_init_505 (by decide) ?_
  refine va_iast hx hb hK hP hD hS 1 0 rfl rfl (vp_in_lit (n := 84) rfl (by decide) (by decide)) dX8_init_508 (fun H locs hP hD hS => ?_)
  have eA : upd (sp_tabn 84) (84 : Int32).toNatClampNeg 10241 = sp_tabn 85 := sp_tabn_s (i := 84) (by decide) (by decide)
  rw [eA] at hP hD
  have hP : va_P (dC, dI) vwCl [(m0, .inr (7, [.int 0, .null, .int 0, .int 0, .int 0, .int 0, .null, .null, .int 0, .int 0, .int 0, .int 0, .int 0, .null, .int 0, .int 0, .int 0, .int 0, .int 0, .int 0, .int 0, .null, .null, .int 0, .int 0, .int 0, .int 0, .long 0, .long 0, .int 0, .int 0])), (q_8, .inl (cI, 188, .inl (sp_tabn 85)))] H := hP
  have hD : va_D A [(m0, .inr (7, [.int 0, .null, .int 0, .int 0, .int 0, .int 0, .null, .null, .int 0, .int 0, .int 0, .int 0, .int 0, .null, .int 0, .int 0, .int 0, .int 0, .int 0, .int 0, .int 0, .null, .null, .int 0, .int 0, .int 0, .int 0, .long 0, .long 0, .int 0, .int 0])), (q_8, .inl (cI, 188, .inl (sp_tabn 85)))] := hD
  refine lv_dup hx hb dX8_init_509 rfl ?_
  refine lv_bipush (v := 85) hx hb dX8_init_510 (by decide) ?_
  refine lv_bipush (v := 22) hx hb dX8_init_512 (by decide) ?_
  refine va_iast hx hb hK hP hD hS 1 0 rfl rfl (vp_in_lit (n := 85) rfl (by decide) (by decide)) dX8_init_514 (fun H locs hP hD hS => ?_)
  have eA : upd (sp_tabn 85) (85 : Int32).toNatClampNeg 22 = sp_tabn 86 := sp_tabn_s (i := 85) (by decide) (by decide)
  rw [eA] at hP hD
  have hP : va_P (dC, dI) vwCl [(m0, .inr (7, [.int 0, .null, .int 0, .int 0, .int 0, .int 0, .null, .null, .int 0, .int 0, .int 0, .int 0, .int 0, .null, .int 0, .int 0, .int 0, .int 0, .int 0, .int 0, .int 0, .null, .null, .int 0, .int 0, .int 0, .int 0, .long 0, .long 0, .int 0, .int 0])), (q_8, .inl (cI, 188, .inl (sp_tabn 86)))] H := hP
  have hD : va_D A [(m0, .inr (7, [.int 0, .null, .int 0, .int 0, .int 0, .int 0, .null, .null, .int 0, .int 0, .int 0, .int 0, .int 0, .null, .int 0, .int 0, .int 0, .int 0, .int 0, .int 0, .int 0, .null, .null, .int 0, .int 0, .int 0, .int 0, .long 0, .long 0, .int 0, .int 0])), (q_8, .inl (cI, 188, .inl (sp_tabn 86)))] := hD
  refine lv_dup hx hb dX8_init_515 rfl ?_
  refine lv_bipush (v := 86) hx hb dX8_init_516 (by decide) ?_
  refine lv_bipush (v := 19) hx hb dX8_init_518 (by decide) ?_
  refine va_iast hx hb hK hP hD hS 1 0 rfl rfl (vp_in_lit (n := 86) rfl (by decide) (by decide)) dX8_init_520 (fun H locs hP hD hS => ?_)
  have eA : upd (sp_tabn 86) (86 : Int32).toNatClampNeg 19 = sp_tabn 87 := sp_tabn_s (i := 86) (by decide) (by decide)
  rw [eA] at hP hD
  have hP : va_P (dC, dI) vwCl [(m0, .inr (7, [.int 0, .null, .int 0, .int 0, .int 0, .int 0, .null, .null, .int 0, .int 0, .int 0, .int 0, .int 0, .null, .int 0, .int 0, .int 0, .int 0, .int 0, .int 0, .int 0, .null, .null, .int 0, .int 0, .int 0, .int 0, .long 0, .long 0, .int 0, .int 0])), (q_8, .inl (cI, 188, .inl (sp_tabn 87)))] H := hP
  have hD : va_D A [(m0, .inr (7, [.int 0, .null, .int 0, .int 0, .int 0, .int 0, .null, .null, .int 0, .int 0, .int 0, .int 0, .int 0, .null, .int 0, .int 0, .int 0, .int 0, .int 0, .int 0, .int 0, .null, .null, .int 0, .int 0, .int 0, .int 0, .long 0, .long 0, .int 0, .int 0])), (q_8, .inl (cI, 188, .inl (sp_tabn 87)))] := hD
  refine lv_dup hx hb dX8_init_521 rfl ?_
  refine lv_bipush (v := 87) hx hb dX8_init_522 (by decide) ?_
  refine lv_iconst (v := 0) hx hb dX8_init_524 (by decide) ?_
  refine va_iast hx hb hK hP hD hS 1 0 rfl rfl (vp_in_lit (n := 87) rfl (by decide) (by decide)) dX8_init_525 (fun H locs hP hD hS => ?_)
  have eA : upd (sp_tabn 87) (87 : Int32).toNatClampNeg 0 = sp_tabn 88 := sp_tabn_s (i := 87) (by decide) (by decide)
  rw [eA] at hP hD
  have hP : va_P (dC, dI) vwCl [(m0, .inr (7, [.int 0, .null, .int 0, .int 0, .int 0, .int 0, .null, .null, .int 0, .int 0, .int 0, .int 0, .int 0, .null, .int 0, .int 0, .int 0, .int 0, .int 0, .int 0, .int 0, .null, .null, .int 0, .int 0, .int 0, .int 0, .long 0, .long 0, .int 0, .int 0])), (q_8, .inl (cI, 188, .inl (sp_tabn 88)))] H := hP
  have hD : va_D A [(m0, .inr (7, [.int 0, .null, .int 0, .int 0, .int 0, .int 0, .null, .null, .int 0, .int 0, .int 0, .int 0, .int 0, .null, .int 0, .int 0, .int 0, .int 0, .int 0, .int 0, .int 0, .null, .null, .int 0, .int 0, .int 0, .int 0, .long 0, .long 0, .int 0, .int 0])), (q_8, .inl (cI, 188, .inl (sp_tabn 88)))] := hD
  refine lv_dup hx hb dX8_init_526 rfl ?_
  refine lv_bipush (v := 88) hx hb dX8_init_527 (by decide) ?_
  refine lv_sipush (v := 9217) hx hb dX8_init_529 (by decide) ?_
  refine va_iast hx hb hK hP hD hS 1 0 rfl rfl (vp_in_lit (n := 88) rfl (by decide) (by decide)) dX8_init_532 (fun H locs hP hD hS => ?_)
  have eA : upd (sp_tabn 88) (88 : Int32).toNatClampNeg 9217 = sp_tabn 89 := sp_tabn_s (i := 88) (by decide) (by decide)
  rw [eA] at hP hD
  have hP : va_P (dC, dI) vwCl [(m0, .inr (7, [.int 0, .null, .int 0, .int 0, .int 0, .int 0, .null, .null, .int 0, .int 0, .int 0, .int 0, .int 0, .null, .int 0, .int 0, .int 0, .int 0, .int 0, .int 0, .int 0, .null, .null, .int 0, .int 0, .int 0, .int 0, .long 0, .long 0, .int 0, .int 0])), (q_8, .inl (cI, 188, .inl (sp_tabn 89)))] H := hP
  have hD : va_D A [(m0, .inr (7, [.int 0, .null, .int 0, .int 0, .int 0, .int 0, .null, .null, .int 0, .int 0, .int 0, .int 0, .int 0, .null, .int 0, .int 0, .int 0, .int 0, .int 0, .int 0, .int 0, .null, .null, .int 0, .int 0, .int 0, .int 0, .long 0, .long 0, .int 0, .int 0])), (q_8, .inl (cI, 188, .inl (sp_tabn 89)))] := hD
  refine lv_dup hx hb dX8_init_533 rfl ?_
  refine lv_bipush (v := 89) hx hb dX8_init_534 (by decide) ?_
  refine lv_bipush (v := 23) hx hb dX8_init_536 (by decide) ?_
  refine va_iast hx hb hK hP hD hS 1 0 rfl rfl (vp_in_lit (n := 89) rfl (by decide) (by decide)) dX8_init_538 (fun H locs hP hD hS => ?_)
  have eA : upd (sp_tabn 89) (89 : Int32).toNatClampNeg 23 = sp_tabn 90 := sp_tabn_s (i := 89) (by decide) (by decide)
  rw [eA] at hP hD
  have hP : va_P (dC, dI) vwCl [(m0, .inr (7, [.int 0, .null, .int 0, .int 0, .int 0, .int 0, .null, .null, .int 0, .int 0, .int 0, .int 0, .int 0, .null, .int 0, .int 0, .int 0, .int 0, .int 0, .int 0, .int 0, .null, .null, .int 0, .int 0, .int 0, .int 0, .long 0, .long 0, .int 0, .int 0])), (q_8, .inl (cI, 188, .inl (sp_tabn 90)))] H := hP
  have hD : va_D A [(m0, .inr (7, [.int 0, .null, .int 0, .int 0, .int 0, .int 0, .null, .null, .int 0, .int 0, .int 0, .int 0, .int 0, .null, .int 0, .int 0, .int 0, .int 0, .int 0, .int 0, .int 0, .null, .null, .int 0, .int 0, .int 0, .int 0, .long 0, .long 0, .int 0, .int 0])), (q_8, .inl (cI, 188, .inl (sp_tabn 90)))] := hD
  refine lv_dup hx hb dX8_init_539 rfl ?_
  refine lv_bipush (v := 90) hx hb dX8_init_540 (by decide) ?_
  refine lv_bipush (v := 20) hx hb dX8_init_542 (by decide) ?_
  refine va_iast hx hb hK hP hD hS 1 0 rfl rfl (vp_in_lit (n := 90) rfl (by decide) (by decide)) dX8_init_544 (fun H locs hP hD hS => ?_)
  have eA : upd (sp_tabn 90) (90 : Int32).toNatClampNeg 20 = sp_tabn 91 := sp_tabn_s (i := 90) (by decide) (by decide)
  rw [eA] at hP hD
  have hP : va_P (dC, dI) vwCl [(m0, .inr (7, [.int 0, .null, .int 0, .int 0, .int 0, .int 0, .null, .null, .int 0, .int 0, .int 0, .int 0, .int 0, .null, .int 0, .int 0, .int 0, .int 0, .int 0, .int 0, .int 0, .null, .null, .int 0, .int 0, .int 0, .int 0, .long 0, .long 0, .int 0, .int 0])), (q_8, .inl (cI, 188, .inl (sp_tabn 91)))] H := hP
  have hD : va_D A [(m0, .inr (7, [.int 0, .null, .int 0, .int 0, .int 0, .int 0, .null, .null, .int 0, .int 0, .int 0, .int 0, .int 0, .null, .int 0, .int 0, .int 0, .int 0, .int 0, .int 0, .int 0, .null, .null, .int 0, .int 0, .int 0, .int 0, .long 0, .long 0, .int 0, .int 0])), (q_8, .inl (cI, 188, .inl (sp_tabn 91)))] := hD
  refine lv_dup hx hb dX8_init_545 rfl ?_
  refine lv_bipush (v := 91) hx hb dX8_init_546 (by decide) ?_
  refine lv_iconst (v := 0) hx hb dX8_init_548 (by decide) ?_
  refine va_iast hx hb hK hP hD hS 1 0 rfl rfl (vp_in_lit (n := 91) rfl (by decide) (by decide)) dX8_init_549 (fun H locs hP hD hS => ?_)
  have eA : upd (sp_tabn 91) (91 : Int32).toNatClampNeg 0 = sp_tabn 92 := sp_tabn_s (i := 91) (by decide) (by decide)
  rw [eA] at hP hD
  have hP : va_P (dC, dI) vwCl [(m0, .inr (7, [.int 0, .null, .int 0, .int 0, .int 0, .int 0, .null, .null, .int 0, .int 0, .int 0, .int 0, .int 0, .null, .int 0, .int 0, .int 0, .int 0, .int 0, .int 0, .int 0, .null, .null, .int 0, .int 0, .int 0, .int 0, .long 0, .long 0, .int 0, .int 0])), (q_8, .inl (cI, 188, .inl (sp_tabn 92)))] H := hP
  have hD : va_D A [(m0, .inr (7, [.int 0, .null, .int 0, .int 0, .int 0, .int 0, .null, .null, .int 0, .int 0, .int 0, .int 0, .int 0, .null, .int 0, .int 0, .int 0, .int 0, .int 0, .int 0, .int 0, .null, .null, .int 0, .int 0, .int 0, .int 0, .long 0, .long 0, .int 0, .int 0])), (q_8, .inl (cI, 188, .inl (sp_tabn 92)))] := hD
  refine lv_dup hx hb dX8_init_550 rfl ?_
  refine lv_bipush (v := 92) hx hb dX8_init_551 (by decide) ?_
  refine lv_sipush (v := 8705) hx hb dX8_init_553 (by decide) ?_
  refine va_iast hx hb hK hP hD hS 1 0 rfl rfl (vp_in_lit (n := 92) rfl (by decide) (by decide)) dX8_init_556 (fun H locs hP hD hS => ?_)
  have eA : upd (sp_tabn 92) (92 : Int32).toNatClampNeg 8705 = sp_tabn 93 := sp_tabn_s (i := 92) (by decide) (by decide)
  rw [eA] at hP hD
  have hP : va_P (dC, dI) vwCl [(m0, .inr (7, [.int 0, .null, .int 0, .int 0, .int 0, .int 0, .null, .null, .int 0, .int 0, .int 0, .int 0, .int 0, .null, .int 0, .int 0, .int 0, .int 0, .int 0, .int 0, .int 0, .null, .null, .int 0, .int 0, .int 0, .int 0, .long 0, .long 0, .int 0, .int 0])), (q_8, .inl (cI, 188, .inl (sp_tabn 93)))] H := hP
  have hD : va_D A [(m0, .inr (7, [.int 0, .null, .int 0, .int 0, .int 0, .int 0, .null, .null, .int 0, .int 0, .int 0, .int 0, .int 0, .null, .int 0, .int 0, .int 0, .int 0, .int 0, .int 0, .int 0, .null, .null, .int 0, .int 0, .int 0, .int 0, .long 0, .long 0, .int 0, .int 0])), (q_8, .inl (cI, 188, .inl (sp_tabn 93)))] := hD
  refine lv_dup hx hb dX8_init_557 rfl ?_
  refine lv_bipush (v := 93) hx hb dX8_init_558 (by decide) ?_
  refine lv_bipush (v := 24) hx hb dX8_init_560 (by decide) ?_
  refine va_iast hx hb hK hP hD hS 1 0 rfl rfl (vp_in_lit (n := 93) rfl (by decide) (by decide)) dX8_init_562 (fun H locs hP hD hS => ?_)
  have eA : upd (sp_tabn 93) (93 : Int32).toNatClampNeg 24 = sp_tabn 94 := sp_tabn_s (i := 93) (by decide) (by decide)
  rw [eA] at hP hD
  have hP : va_P (dC, dI) vwCl [(m0, .inr (7, [.int 0, .null, .int 0, .int 0, .int 0, .int 0, .null, .null, .int 0, .int 0, .int 0, .int 0, .int 0, .null, .int 0, .int 0, .int 0, .int 0, .int 0, .int 0, .int 0, .null, .null, .int 0, .int 0, .int 0, .int 0, .long 0, .long 0, .int 0, .int 0])), (q_8, .inl (cI, 188, .inl (sp_tabn 94)))] H := hP
  have hD : va_D A [(m0, .inr (7, [.int 0, .null, .int 0, .int 0, .int 0, .int 0, .null, .null, .int 0, .int 0, .int 0, .int 0, .int 0, .null, .int 0, .int 0, .int 0, .int 0, .int 0, .int 0, .int 0, .null, .null, .int 0, .int 0, .int 0, .int 0, .long 0, .long 0, .int 0, .int 0])), (q_8, .inl (cI, 188, .inl (sp_tabn 94)))] := hD
  refine lv_dup hx hb dX8_init_563 rfl ?_
  refine lv_bipush (v := 94) hx hb dX8_init_564 (by decide) ?_
  refine lv_bipush (v := 21) hx hb dX8_init_566 (by decide) ?_
  refine va_iast hx hb hK hP hD hS 1 0 rfl rfl (vp_in_lit (n := 94) rfl (by decide) (by decide)) dX8_init_568 (fun H locs hP hD hS => ?_)
  have eA : upd (sp_tabn 94) (94 : Int32).toNatClampNeg 21 = sp_tabn 95 := sp_tabn_s (i := 94) (by decide) (by decide)
  rw [eA] at hP hD
  have hP : va_P (dC, dI) vwCl [(m0, .inr (7, [.int 0, .null, .int 0, .int 0, .int 0, .int 0, .null, .null, .int 0, .int 0, .int 0, .int 0, .int 0, .null, .int 0, .int 0, .int 0, .int 0, .int 0, .int 0, .int 0, .null, .null, .int 0, .int 0, .int 0, .int 0, .long 0, .long 0, .int 0, .int 0])), (q_8, .inl (cI, 188, .inl (sp_tabn 95)))] H := hP
  have hD : va_D A [(m0, .inr (7, [.int 0, .null, .int 0, .int 0, .int 0, .int 0, .null, .null, .int 0, .int 0, .int 0, .int 0, .int 0, .null, .int 0, .int 0, .int 0, .int 0, .int 0, .int 0, .int 0, .null, .null, .int 0, .int 0, .int 0, .int 0, .long 0, .long 0, .int 0, .int 0])), (q_8, .inl (cI, 188, .inl (sp_tabn 95)))] := hD
  refine lv_dup hx hb dX8_init_569 rfl ?_
  refine lv_bipush (v := 95) hx hb dX8_init_570 (by decide) ?_
  refine lv_iconst (v := 0) hx hb dX8_init_572 (by decide) ?_
  refine va_iast hx hb hK hP hD hS 1 0 rfl rfl (vp_in_lit (n := 95) rfl (by decide) (by decide)) dX8_init_573 (fun H locs hP hD hS => ?_)
  have eA : upd (sp_tabn 95) (95 : Int32).toNatClampNeg 0 = sp_tabn 96 := sp_tabn_s (i := 95) (by decide) (by decide)
  rw [eA] at hP hD
  have hP : va_P (dC, dI) vwCl [(m0, .inr (7, [.int 0, .null, .int 0, .int 0, .int 0, .int 0, .null, .null, .int 0, .int 0, .int 0, .int 0, .int 0, .null, .int 0, .int 0, .int 0, .int 0, .int 0, .int 0, .int 0, .null, .null, .int 0, .int 0, .int 0, .int 0, .long 0, .long 0, .int 0, .int 0])), (q_8, .inl (cI, 188, .inl (sp_tabn 96)))] H := hP
  have hD : va_D A [(m0, .inr (7, [.int 0, .null, .int 0, .int 0, .int 0, .int 0, .null, .null, .int 0, .int 0, .int 0, .int 0, .int 0, .null, .int 0, .int 0, .int 0, .int 0, .int 0, .int 0, .int 0, .null, .null, .int 0, .int 0, .int 0, .int 0, .long 0, .long 0, .int 0, .int 0])), (q_8, .inl (cI, 188, .inl (sp_tabn 96)))] := hD
  refine lv_dup hx hb dX8_init_574 rfl ?_
  refine lv_bipush (v := 96) hx hb dX8_init_575 (by decide) ?_
  refine lv_sipush (v := 7169) hx hb dX8_init_577 (by decide) ?_
  refine va_iast hx hb hK hP hD hS 1 0 rfl rfl (vp_in_lit (n := 96) rfl (by decide) (by decide)) dX8_init_580 (fun H locs hP hD hS => ?_)
  have eA : upd (sp_tabn 96) (96 : Int32).toNatClampNeg 7169 = sp_tabn 97 := sp_tabn_s (i := 96) (by decide) (by decide)
  rw [eA] at hP hD
  have hP : va_P (dC, dI) vwCl [(m0, .inr (7, [.int 0, .null, .int 0, .int 0, .int 0, .int 0, .null, .null, .int 0, .int 0, .int 0, .int 0, .int 0, .null, .int 0, .int 0, .int 0, .int 0, .int 0, .int 0, .int 0, .null, .null, .int 0, .int 0, .int 0, .int 0, .long 0, .long 0, .int 0, .int 0])), (q_8, .inl (cI, 188, .inl (sp_tabn 97)))] H := hP
  have hD : va_D A [(m0, .inr (7, [.int 0, .null, .int 0, .int 0, .int 0, .int 0, .null, .null, .int 0, .int 0, .int 0, .int 0, .int 0, .null, .int 0, .int 0, .int 0, .int 0, .int 0, .int 0, .int 0, .null, .null, .int 0, .int 0, .int 0, .int 0, .long 0, .long 0, .int 0, .int 0])), (q_8, .inl (cI, 188, .inl (sp_tabn 97)))] := hD
  refine lv_dup hx hb dX8_init_581 rfl ?_
  refine lv_bipush (v := 97) hx hb dX8_init_582 (by decide) ?_
  refine lv_bipush (v := 25) hx hb dX8_init_584 (by decide) ?_
  refine va_iast hx hb hK hP hD hS 1 0 rfl rfl (vp_in_lit (n := 97) rfl (by decide) (by decide)) dX8_init_586 (fun H locs hP hD hS => ?_)
  have eA : upd (sp_tabn 97) (97 : Int32).toNatClampNeg 25 = sp_tabn 98 := sp_tabn_s (i := 97) (by decide) (by decide)
  rw [eA] at hP hD
  have hP : va_P (dC, dI) vwCl [(m0, .inr (7, [.int 0, .null, .int 0, .int 0, .int 0, .int 0, .null, .null, .int 0, .int 0, .int 0, .int 0, .int 0, .null, .int 0, .int 0, .int 0, .int 0, .int 0, .int 0, .int 0, .null, .null, .int 0, .int 0, .int 0, .int 0, .long 0, .long 0, .int 0, .int 0])), (q_8, .inl (cI, 188, .inl (sp_tabn 98)))] H := hP
  have hD : va_D A [(m0, .inr (7, [.int 0, .null, .int 0, .int 0, .int 0, .int 0, .null, .null, .int 0, .int 0, .int 0, .int 0, .int 0, .null, .int 0, .int 0, .int 0, .int 0, .int 0, .int 0, .int 0, .null, .null, .int 0, .int 0, .int 0, .int 0, .long 0, .long 0, .int 0, .int 0])), (q_8, .inl (cI, 188, .inl (sp_tabn 98)))] := hD
  refine lv_dup hx hb dX8_init_587 rfl ?_
  refine lv_bipush (v := 98) hx hb dX8_init_588 (by decide) ?_
  refine lv_bipush (v := 22) hx hb dX8_init_590 (by decide) ?_
  refine va_iast hx hb hK hP hD hS 1 0 rfl rfl (vp_in_lit (n := 98) rfl (by decide) (by decide)) dX8_init_592 (fun H locs hP hD hS => ?_)
  have eA : upd (sp_tabn 98) (98 : Int32).toNatClampNeg 22 = sp_tabn 99 := sp_tabn_s (i := 98) (by decide) (by decide)
  rw [eA] at hP hD
  have hP : va_P (dC, dI) vwCl [(m0, .inr (7, [.int 0, .null, .int 0, .int 0, .int 0, .int 0, .null, .null, .int 0, .int 0, .int 0, .int 0, .int 0, .null, .int 0, .int 0, .int 0, .int 0, .int 0, .int 0, .int 0, .null, .null, .int 0, .int 0, .int 0, .int 0, .long 0, .long 0, .int 0, .int 0])), (q_8, .inl (cI, 188, .inl (sp_tabn 99)))] H := hP
  have hD : va_D A [(m0, .inr (7, [.int 0, .null, .int 0, .int 0, .int 0, .int 0, .null, .null, .int 0, .int 0, .int 0, .int 0, .int 0, .null, .int 0, .int 0, .int 0, .int 0, .int 0, .int 0, .int 0, .null, .null, .int 0, .int 0, .int 0, .int 0, .long 0, .long 0, .int 0, .int 0])), (q_8, .inl (cI, 188, .inl (sp_tabn 99)))] := hD
  refine lv_dup hx hb dX8_init_593 rfl ?_
  refine lv_bipush (v := 99) hx hb dX8_init_594 (by decide) ?_
  refine lv_iconst (v := 0) hx hb dX8_init_596 (by decide) ?_
  refine va_iast hx hb hK hP hD hS 1 0 rfl rfl (vp_in_lit (n := 99) rfl (by decide) (by decide)) dX8_init_597 (fun H locs hP hD hS => ?_)
  have eA : upd (sp_tabn 99) (99 : Int32).toNatClampNeg 0 = sp_tabn 100 := sp_tabn_s (i := 99) (by decide) (by decide)
  rw [eA] at hP hD
  have hP : va_P (dC, dI) vwCl [(m0, .inr (7, [.int 0, .null, .int 0, .int 0, .int 0, .int 0, .null, .null, .int 0, .int 0, .int 0, .int 0, .int 0, .null, .int 0, .int 0, .int 0, .int 0, .int 0, .int 0, .int 0, .null, .null, .int 0, .int 0, .int 0, .int 0, .long 0, .long 0, .int 0, .int 0])), (q_8, .inl (cI, 188, .inl (sp_tabn 100)))] H := hP
  have hD : va_D A [(m0, .inr (7, [.int 0, .null, .int 0, .int 0, .int 0, .int 0, .null, .null, .int 0, .int 0, .int 0, .int 0, .int 0, .null, .int 0, .int 0, .int 0, .int 0, .int 0, .int 0, .int 0, .null, .null, .int 0, .int 0, .int 0, .int 0, .long 0, .long 0, .int 0, .int 0])), (q_8, .inl (cI, 188, .inl (sp_tabn 100)))] := hD
  refine lv_dup hx hb dX8_init_598 rfl ?_
  refine lv_bipush (v := 100) hx hb dX8_init_599 (by decide) ?_
  refine lv_sipush (v := 6145) hx hb dX8_init_601 (by decide) ?_
  refine va_iast hx hb hK hP hD hS 1 0 rfl rfl (vp_in_lit (n := 100) rfl (by decide) (by decide)) dX8_init_604 (fun H locs hP hD hS => ?_)
  have eA : upd (sp_tabn 100) (100 : Int32).toNatClampNeg 6145 = sp_tabn 101 := sp_tabn_s (i := 100) (by decide) (by decide)
  rw [eA] at hP hD
  have hP : va_P (dC, dI) vwCl [(m0, .inr (7, [.int 0, .null, .int 0, .int 0, .int 0, .int 0, .null, .null, .int 0, .int 0, .int 0, .int 0, .int 0, .null, .int 0, .int 0, .int 0, .int 0, .int 0, .int 0, .int 0, .null, .null, .int 0, .int 0, .int 0, .int 0, .long 0, .long 0, .int 0, .int 0])), (q_8, .inl (cI, 188, .inl (sp_tabn 101)))] H := hP
  have hD : va_D A [(m0, .inr (7, [.int 0, .null, .int 0, .int 0, .int 0, .int 0, .null, .null, .int 0, .int 0, .int 0, .int 0, .int 0, .null, .int 0, .int 0, .int 0, .int 0, .int 0, .int 0, .int 0, .null, .null, .int 0, .int 0, .int 0, .int 0, .long 0, .long 0, .int 0, .int 0])), (q_8, .inl (cI, 188, .inl (sp_tabn 101)))] := hD
  refine lv_dup hx hb dX8_init_605 rfl ?_
  refine lv_bipush (v := 101) hx hb dX8_init_606 (by decide) ?_
  refine lv_bipush (v := 26) hx hb dX8_init_608 (by decide) ?_
  refine va_iast hx hb hK hP hD hS 1 0 rfl rfl (vp_in_lit (n := 101) rfl (by decide) (by decide)) dX8_init_610 (fun H locs hP hD hS => ?_)
  have eA : upd (sp_tabn 101) (101 : Int32).toNatClampNeg 26 = sp_tabn 102 := sp_tabn_s (i := 101) (by decide) (by decide)
  rw [eA] at hP hD
  have hP : va_P (dC, dI) vwCl [(m0, .inr (7, [.int 0, .null, .int 0, .int 0, .int 0, .int 0, .null, .null, .int 0, .int 0, .int 0, .int 0, .int 0, .null, .int 0, .int 0, .int 0, .int 0, .int 0, .int 0, .int 0, .null, .null, .int 0, .int 0, .int 0, .int 0, .long 0, .long 0, .int 0, .int 0])), (q_8, .inl (cI, 188, .inl (sp_tabn 102)))] H := hP
  have hD : va_D A [(m0, .inr (7, [.int 0, .null, .int 0, .int 0, .int 0, .int 0, .null, .null, .int 0, .int 0, .int 0, .int 0, .int 0, .null, .int 0, .int 0, .int 0, .int 0, .int 0, .int 0, .int 0, .null, .null, .int 0, .int 0, .int 0, .int 0, .long 0, .long 0, .int 0, .int 0])), (q_8, .inl (cI, 188, .inl (sp_tabn 102)))] := hD
  refine lv_dup hx hb dX8_init_611 rfl ?_
  refine lv_bipush (v := 102) hx hb dX8_init_612 (by decide) ?_
  refine lv_bipush (v := 23) hx hb dX8_init_614 (by decide) ?_
  refine va_iast hx hb hK hP hD hS 1 0 rfl rfl (vp_in_lit (n := 102) rfl (by decide) (by decide)) dX8_init_616 (fun H locs hP hD hS => ?_)
  have eA : upd (sp_tabn 102) (102 : Int32).toNatClampNeg 23 = sp_tabn 103 := sp_tabn_s (i := 102) (by decide) (by decide)
  rw [eA] at hP hD
  have hP : va_P (dC, dI) vwCl [(m0, .inr (7, [.int 0, .null, .int 0, .int 0, .int 0, .int 0, .null, .null, .int 0, .int 0, .int 0, .int 0, .int 0, .null, .int 0, .int 0, .int 0, .int 0, .int 0, .int 0, .int 0, .null, .null, .int 0, .int 0, .int 0, .int 0, .long 0, .long 0, .int 0, .int 0])), (q_8, .inl (cI, 188, .inl (sp_tabn 103)))] H := hP
  have hD : va_D A [(m0, .inr (7, [.int 0, .null, .int 0, .int 0, .int 0, .int 0, .null, .null, .int 0, .int 0, .int 0, .int 0, .int 0, .null, .int 0, .int 0, .int 0, .int 0, .int 0, .int 0, .int 0, .null, .null, .int 0, .int 0, .int 0, .int 0, .long 0, .long 0, .int 0, .int 0])), (q_8, .inl (cI, 188, .inl (sp_tabn 103)))] := hD
  refine lv_dup hx hb dX8_init_617 rfl ?_
  refine lv_bipush (v := 103) hx hb dX8_init_618 (by decide) ?_
  refine lv_iconst (v := 0) hx hb dX8_init_620 (by decide) ?_
  refine va_iast hx hb hK hP hD hS 1 0 rfl rfl (vp_in_lit (n := 103) rfl (by decide) (by decide)) dX8_init_621 (fun H locs hP hD hS => ?_)
  have eA : upd (sp_tabn 103) (103 : Int32).toNatClampNeg 0 = sp_tabn 104 := sp_tabn_s (i := 103) (by decide) (by decide)
  rw [eA] at hP hD
  have hP : va_P (dC, dI) vwCl [(m0, .inr (7, [.int 0, .null, .int 0, .int 0, .int 0, .int 0, .null, .null, .int 0, .int 0, .int 0, .int 0, .int 0, .null, .int 0, .int 0, .int 0, .int 0, .int 0, .int 0, .int 0, .null, .null, .int 0, .int 0, .int 0, .int 0, .long 0, .long 0, .int 0, .int 0])), (q_8, .inl (cI, 188, .inl (sp_tabn 104)))] H := hP
  have hD : va_D A [(m0, .inr (7, [.int 0, .null, .int 0, .int 0, .int 0, .int 0, .null, .null, .int 0, .int 0, .int 0, .int 0, .int 0, .null, .int 0, .int 0, .int 0, .int 0, .int 0, .int 0, .int 0, .null, .null, .int 0, .int 0, .int 0, .int 0, .long 0, .long 0, .int 0, .int 0])), (q_8, .inl (cI, 188, .inl (sp_tabn 104)))] := hD
  refine lv_dup hx hb dX8_init_622 rfl ?_
  refine lv_bipush (v := 104) hx hb dX8_init_623 (by decide) ?_
  refine lv_sipush (v := 5633) hx hb dX8_init_625 (by decide) ?_
  refine va_iast hx hb hK hP hD hS 1 0 rfl rfl (vp_in_lit (n := 104) rfl (by decide) (by decide)) dX8_init_628 (fun H locs hP hD hS => ?_)
  have eA : upd (sp_tabn 104) (104 : Int32).toNatClampNeg 5633 = sp_tabn 105 := sp_tabn_s (i := 104) (by decide) (by decide)
  rw [eA] at hP hD
  have hP : va_P (dC, dI) vwCl [(m0, .inr (7, [.int 0, .null, .int 0, .int 0, .int 0, .int 0, .null, .null, .int 0, .int 0, .int 0, .int 0, .int 0, .null, .int 0, .int 0, .int 0, .int 0, .int 0, .int 0, .int 0, .null, .null, .int 0, .int 0, .int 0, .int 0, .long 0, .long 0, .int 0, .int 0])), (q_8, .inl (cI, 188, .inl (sp_tabn 105)))] H := hP
  have hD : va_D A [(m0, .inr (7, [.int 0, .null, .int 0, .int 0, .int 0, .int 0, .null, .null, .int 0, .int 0, .int 0, .int 0, .int 0, .null, .int 0, .int 0, .int 0, .int 0, .int 0, .int 0, .int 0, .null, .null, .int 0, .int 0, .int 0, .int 0, .long 0, .long 0, .int 0, .int 0])), (q_8, .inl (cI, 188, .inl (sp_tabn 105)))] := hD
  refine lv_dup hx hb dX8_init_629 rfl ?_
  refine lv_bipush (v := 105) hx hb dX8_init_630 (by decide) ?_
  refine lv_bipush (v := 27) hx hb dX8_init_632 (by decide) ?_
  refine va_iast hx hb hK hP hD hS 1 0 rfl rfl (vp_in_lit (n := 105) rfl (by decide) (by decide)) dX8_init_634 (fun H locs hP hD hS => ?_)
  have eA : upd (sp_tabn 105) (105 : Int32).toNatClampNeg 27 = sp_tabn 106 := sp_tabn_s (i := 105) (by decide) (by decide)
  rw [eA] at hP hD
  have hP : va_P (dC, dI) vwCl [(m0, .inr (7, [.int 0, .null, .int 0, .int 0, .int 0, .int 0, .null, .null, .int 0, .int 0, .int 0, .int 0, .int 0, .null, .int 0, .int 0, .int 0, .int 0, .int 0, .int 0, .int 0, .null, .null, .int 0, .int 0, .int 0, .int 0, .long 0, .long 0, .int 0, .int 0])), (q_8, .inl (cI, 188, .inl (sp_tabn 106)))] H := hP
  have hD : va_D A [(m0, .inr (7, [.int 0, .null, .int 0, .int 0, .int 0, .int 0, .null, .null, .int 0, .int 0, .int 0, .int 0, .int 0, .null, .int 0, .int 0, .int 0, .int 0, .int 0, .int 0, .int 0, .null, .null, .int 0, .int 0, .int 0, .int 0, .long 0, .long 0, .int 0, .int 0])), (q_8, .inl (cI, 188, .inl (sp_tabn 106)))] := hD
  refine lv_dup hx hb dX8_init_635 rfl ?_
  refine lv_bipush (v := 106) hx hb dX8_init_636 (by decide) ?_
  refine lv_bipush (v := 24) hx hb dX8_init_638 (by decide) ?_
  refine va_iast hx hb hK hP hD hS 1 0 rfl rfl (vp_in_lit (n := 106) rfl (by decide) (by decide)) dX8_init_640 (fun H locs hP hD hS => ?_)
  have eA : upd (sp_tabn 106) (106 : Int32).toNatClampNeg 24 = sp_tabn 107 := sp_tabn_s (i := 106) (by decide) (by decide)
  rw [eA] at hP hD
  have hP : va_P (dC, dI) vwCl [(m0, .inr (7, [.int 0, .null, .int 0, .int 0, .int 0, .int 0, .null, .null, .int 0, .int 0, .int 0, .int 0, .int 0, .null, .int 0, .int 0, .int 0, .int 0, .int 0, .int 0, .int 0, .null, .null, .int 0, .int 0, .int 0, .int 0, .long 0, .long 0, .int 0, .int 0])), (q_8, .inl (cI, 188, .inl (sp_tabn 107)))] H := hP
  have hD : va_D A [(m0, .inr (7, [.int 0, .null, .int 0, .int 0, .int 0, .int 0, .null, .null, .int 0, .int 0, .int 0, .int 0, .int 0, .null, .int 0, .int 0, .int 0, .int 0, .int 0, .int 0, .int 0, .null, .null, .int 0, .int 0, .int 0, .int 0, .long 0, .long 0, .int 0, .int 0])), (q_8, .inl (cI, 188, .inl (sp_tabn 107)))] := hD
  refine lv_dup hx hb dX8_init_641 rfl ?_
  refine lv_bipush (v := 107) hx hb dX8_init_642 (by decide) ?_
  refine lv_iconst (v := 0) hx hb dX8_init_644 (by decide) ?_
  refine va_iast hx hb hK hP hD hS 1 0 rfl rfl (vp_in_lit (n := 107) rfl (by decide) (by decide)) dX8_init_645 (fun H locs hP hD hS => ?_)
  have eA : upd (sp_tabn 107) (107 : Int32).toNatClampNeg 0 = sp_tabn 108 := sp_tabn_s (i := 107) (by decide) (by decide)
  rw [eA] at hP hD
  have hP : va_P (dC, dI) vwCl [(m0, .inr (7, [.int 0, .null, .int 0, .int 0, .int 0, .int 0, .null, .null, .int 0, .int 0, .int 0, .int 0, .int 0, .null, .int 0, .int 0, .int 0, .int 0, .int 0, .int 0, .int 0, .null, .null, .int 0, .int 0, .int 0, .int 0, .long 0, .long 0, .int 0, .int 0])), (q_8, .inl (cI, 188, .inl (sp_tabn 108)))] H := hP
  have hD : va_D A [(m0, .inr (7, [.int 0, .null, .int 0, .int 0, .int 0, .int 0, .null, .null, .int 0, .int 0, .int 0, .int 0, .int 0, .null, .int 0, .int 0, .int 0, .int 0, .int 0, .int 0, .int 0, .null, .null, .int 0, .int 0, .int 0, .int 0, .long 0, .long 0, .int 0, .int 0])), (q_8, .inl (cI, 188, .inl (sp_tabn 108)))] := hD
  refine lv_dup hx hb dX8_init_646 rfl ?_
  refine lv_bipush (v := 108) hx hb dX8_init_647 (by decide) ?_
  refine lv_sipush (v := 5121) hx hb dX8_init_649 (by decide) ?_
  refine va_iast hx hb hK hP hD hS 1 0 rfl rfl (vp_in_lit (n := 108) rfl (by decide) (by decide)) dX8_init_652 (fun H locs hP hD hS => ?_)
  have eA : upd (sp_tabn 108) (108 : Int32).toNatClampNeg 5121 = sp_tabn 109 := sp_tabn_s (i := 108) (by decide) (by decide)
  rw [eA] at hP hD
  have hP : va_P (dC, dI) vwCl [(m0, .inr (7, [.int 0, .null, .int 0, .int 0, .int 0, .int 0, .null, .null, .int 0, .int 0, .int 0, .int 0, .int 0, .null, .int 0, .int 0, .int 0, .int 0, .int 0, .int 0, .int 0, .null, .null, .int 0, .int 0, .int 0, .int 0, .long 0, .long 0, .int 0, .int 0])), (q_8, .inl (cI, 188, .inl (sp_tabn 109)))] H := hP
  have hD : va_D A [(m0, .inr (7, [.int 0, .null, .int 0, .int 0, .int 0, .int 0, .null, .null, .int 0, .int 0, .int 0, .int 0, .int 0, .null, .int 0, .int 0, .int 0, .int 0, .int 0, .int 0, .int 0, .null, .null, .int 0, .int 0, .int 0, .int 0, .long 0, .long 0, .int 0, .int 0])), (q_8, .inl (cI, 188, .inl (sp_tabn 109)))] := hD
  refine lv_dup hx hb dX8_init_653 rfl ?_
  refine lv_bipush (v := 109) hx hb dX8_init_654 (by decide) ?_
  refine lv_bipush (v := 28) hx hb dX8_init_656 (by decide) ?_
  refine va_iast hx hb hK hP hD hS 1 0 rfl rfl (vp_in_lit (n := 109) rfl (by decide) (by decide)) dX8_init_658 (fun H locs hP hD hS => ?_)
  have eA : upd (sp_tabn 109) (109 : Int32).toNatClampNeg 28 = sp_tabn 110 := sp_tabn_s (i := 109) (by decide) (by decide)
  rw [eA] at hP hD
  have hP : va_P (dC, dI) vwCl [(m0, .inr (7, [.int 0, .null, .int 0, .int 0, .int 0, .int 0, .null, .null, .int 0, .int 0, .int 0, .int 0, .int 0, .null, .int 0, .int 0, .int 0, .int 0, .int 0, .int 0, .int 0, .null, .null, .int 0, .int 0, .int 0, .int 0, .long 0, .long 0, .int 0, .int 0])), (q_8, .inl (cI, 188, .inl (sp_tabn 110)))] H := hP
  have hD : va_D A [(m0, .inr (7, [.int 0, .null, .int 0, .int 0, .int 0, .int 0, .null, .null, .int 0, .int 0, .int 0, .int 0, .int 0, .null, .int 0, .int 0, .int 0, .int 0, .int 0, .int 0, .int 0, .null, .null, .int 0, .int 0, .int 0, .int 0, .long 0, .long 0, .int 0, .int 0])), (q_8, .inl (cI, 188, .inl (sp_tabn 110)))] := hD
  refine lv_dup hx hb dX8_init_659 rfl ?_
  refine lv_bipush (v := 110) hx hb dX8_init_660 (by decide) ?_
  refine lv_bipush (v := 25) hx hb dX8_init_662 (by decide) ?_
  refine va_iast hx hb hK hP hD hS 1 0 rfl rfl (vp_in_lit (n := 110) rfl (by decide) (by decide)) dX8_init_664 (fun H locs hP hD hS => ?_)
  have eA : upd (sp_tabn 110) (110 : Int32).toNatClampNeg 25 = sp_tabn 111 := sp_tabn_s (i := 110) (by decide) (by decide)
  rw [eA] at hP hD
  have hP : va_P (dC, dI) vwCl [(m0, .inr (7, [.int 0, .null, .int 0, .int 0, .int 0, .int 0, .null, .null, .int 0, .int 0, .int 0, .int 0, .int 0, .null, .int 0, .int 0, .int 0, .int 0, .int 0, .int 0, .int 0, .null, .null, .int 0, .int 0, .int 0, .int 0, .long 0, .long 0, .int 0, .int 0])), (q_8, .inl (cI, 188, .inl (sp_tabn 111)))] H := hP
  have hD : va_D A [(m0, .inr (7, [.int 0, .null, .int 0, .int 0, .int 0, .int 0, .null, .null, .int 0, .int 0, .int 0, .int 0, .int 0, .null, .int 0, .int 0, .int 0, .int 0, .int 0, .int 0, .int 0, .null, .null, .int 0, .int 0, .int 0, .int 0, .long 0, .long 0, .int 0, .int 0])), (q_8, .inl (cI, 188, .inl (sp_tabn 111)))] := hD
  refine lv_dup hx hb dX8_init_665 rfl ?_
  refine lv_bipush (v := 111) hx hb dX8_init_666 (by decide) ?_
  refine lv_iconst (v := 0) hx hb dX8_init_668 (by decide) ?_
  refine va_iast hx hb hK hP hD hS 1 0 rfl rfl (vp_in_lit (n := 111) rfl (by decide) (by decide)) dX8_init_669 (fun H locs hP hD hS => ?_)
  have eA : upd (sp_tabn 111) (111 : Int32).toNatClampNeg 0 = sp_tabn 112 := sp_tabn_s (i := 111) (by decide) (by decide)
  rw [eA] at hP hD
  have hP : va_P (dC, dI) vwCl [(m0, .inr (7, [.int 0, .null, .int 0, .int 0, .int 0, .int 0, .null, .null, .int 0, .int 0, .int 0, .int 0, .int 0, .null, .int 0, .int 0, .int 0, .int 0, .int 0, .int 0, .int 0, .null, .null, .int 0, .int 0, .int 0, .int 0, .long 0, .long 0, .int 0, .int 0])), (q_8, .inl (cI, 188, .inl (sp_tabn 112)))] H := hP
  have hD : va_D A [(m0, .inr (7, [.int 0, .null, .int 0, .int 0, .int 0, .int 0, .null, .null, .int 0, .int 0, .int 0, .int 0, .int 0, .null, .int 0, .int 0, .int 0, .int 0, .int 0, .int 0, .int 0, .null, .null, .int 0, .int 0, .int 0, .int 0, .long 0, .long 0, .int 0, .int 0])), (q_8, .inl (cI, 188, .inl (sp_tabn 112)))] := hD
  refine lv_dup hx hb dX8_init_670 rfl ?_
  refine lv_bipush (v := 112) hx hb dX8_init_671 (by decide) ?_
  refine lv_sipush (v := 4609) hx hb dX8_init_673 (by decide) ?_
  refine va_iast hx hb hK hP hD hS 1 0 rfl rfl (vp_in_lit (n := 112) rfl (by decide) (by decide)) dX8_init_676 (fun H locs hP hD hS => ?_)
  have eA : upd (sp_tabn 112) (112 : Int32).toNatClampNeg 4609 = sp_tabn 113 := sp_tabn_s (i := 112) (by decide) (by decide)
  rw [eA] at hP hD
  have hP : va_P (dC, dI) vwCl [(m0, .inr (7, [.int 0, .null, .int 0, .int 0, .int 0, .int 0, .null, .null, .int 0, .int 0, .int 0, .int 0, .int 0, .null, .int 0, .int 0, .int 0, .int 0, .int 0, .int 0, .int 0, .null, .null, .int 0, .int 0, .int 0, .int 0, .long 0, .long 0, .int 0, .int 0])), (q_8, .inl (cI, 188, .inl (sp_tabn 113)))] H := hP
  have hD : va_D A [(m0, .inr (7, [.int 0, .null, .int 0, .int 0, .int 0, .int 0, .null, .null, .int 0, .int 0, .int 0, .int 0, .int 0, .null, .int 0, .int 0, .int 0, .int 0, .int 0, .int 0, .int 0, .null, .null, .int 0, .int 0, .int 0, .int 0, .long 0, .long 0, .int 0, .int 0])), (q_8, .inl (cI, 188, .inl (sp_tabn 113)))] := hD
  refine lv_dup hx hb dX8_init_677 rfl ?_
  refine lv_bipush (v := 113) hx hb dX8_init_678 (by decide) ?_
  refine lv_bipush (v := 29) hx hb dX8_init_680 (by decide) ?_
  refine va_iast hx hb hK hP hD hS 1 0 rfl rfl (vp_in_lit (n := 113) rfl (by decide) (by decide)) dX8_init_682 (fun H locs hP hD hS => ?_)
  have eA : upd (sp_tabn 113) (113 : Int32).toNatClampNeg 29 = sp_tabn 114 := sp_tabn_s (i := 113) (by decide) (by decide)
  rw [eA] at hP hD
  have hP : va_P (dC, dI) vwCl [(m0, .inr (7, [.int 0, .null, .int 0, .int 0, .int 0, .int 0, .null, .null, .int 0, .int 0, .int 0, .int 0, .int 0, .null, .int 0, .int 0, .int 0, .int 0, .int 0, .int 0, .int 0, .null, .null, .int 0, .int 0, .int 0, .int 0, .long 0, .long 0, .int 0, .int 0])), (q_8, .inl (cI, 188, .inl (sp_tabn 114)))] H := hP
  have hD : va_D A [(m0, .inr (7, [.int 0, .null, .int 0, .int 0, .int 0, .int 0, .null, .null, .int 0, .int 0, .int 0, .int 0, .int 0, .null, .int 0, .int 0, .int 0, .int 0, .int 0, .int 0, .int 0, .null, .null, .int 0, .int 0, .int 0, .int 0, .long 0, .long 0, .int 0, .int 0])), (q_8, .inl (cI, 188, .inl (sp_tabn 114)))] := hD
  refine lv_dup hx hb dX8_init_683 rfl ?_
  refine lv_bipush (v := 114) hx hb dX8_init_684 (by decide) ?_
  refine lv_bipush (v := 26) hx hb dX8_init_686 (by decide) ?_
  refine va_iast hx hb hK hP hD hS 1 0 rfl rfl (vp_in_lit (n := 114) rfl (by decide) (by decide)) dX8_init_688 (fun H locs hP hD hS => ?_)
  have eA : upd (sp_tabn 114) (114 : Int32).toNatClampNeg 26 = sp_tabn 115 := sp_tabn_s (i := 114) (by decide) (by decide)
  rw [eA] at hP hD
  have hP : va_P (dC, dI) vwCl [(m0, .inr (7, [.int 0, .null, .int 0, .int 0, .int 0, .int 0, .null, .null, .int 0, .int 0, .int 0, .int 0, .int 0, .null, .int 0, .int 0, .int 0, .int 0, .int 0, .int 0, .int 0, .null, .null, .int 0, .int 0, .int 0, .int 0, .long 0, .long 0, .int 0, .int 0])), (q_8, .inl (cI, 188, .inl (sp_tabn 115)))] H := hP
  have hD : va_D A [(m0, .inr (7, [.int 0, .null, .int 0, .int 0, .int 0, .int 0, .null, .null, .int 0, .int 0, .int 0, .int 0, .int 0, .null, .int 0, .int 0, .int 0, .int 0, .int 0, .int 0, .int 0, .null, .null, .int 0, .int 0, .int 0, .int 0, .long 0, .long 0, .int 0, .int 0])), (q_8, .inl (cI, 188, .inl (sp_tabn 115)))] := hD
  refine lv_dup hx hb dX8_init_689 rfl ?_
  refine lv_bipush (v := 115) hx hb dX8_init_690 (by decide) ?_
  refine lv_iconst (v := 0) hx hb dX8_init_692 (by decide) ?_
  refine va_iast hx hb hK hP hD hS 1 0 rfl rfl (vp_in_lit (n := 115) rfl (by decide) (by decide)) dX8_init_693 (fun H locs hP hD hS => ?_)
  have eA : upd (sp_tabn 115) (115 : Int32).toNatClampNeg 0 = sp_tabn 116 := sp_tabn_s (i := 115) (by decide) (by decide)
  rw [eA] at hP hD
  have hP : va_P (dC, dI) vwCl [(m0, .inr (7, [.int 0, .null, .int 0, .int 0, .int 0, .int 0, .null, .null, .int 0, .int 0, .int 0, .int 0, .int 0, .null, .int 0, .int 0, .int 0, .int 0, .int 0, .int 0, .int 0, .null, .null, .int 0, .int 0, .int 0, .int 0, .long 0, .long 0, .int 0, .int 0])), (q_8, .inl (cI, 188, .inl (sp_tabn 116)))] H := hP
  have hD : va_D A [(m0, .inr (7, [.int 0, .null, .int 0, .int 0, .int 0, .int 0, .null, .null, .int 0, .int 0, .int 0, .int 0, .int 0, .null, .int 0, .int 0, .int 0, .int 0, .int 0, .int 0, .int 0, .null, .null, .int 0, .int 0, .int 0, .int 0, .long 0, .long 0, .int 0, .int 0])), (q_8, .inl (cI, 188, .inl (sp_tabn 116)))] := hD
  refine lv_dup hx hb dX8_init_694 rfl ?_
  refine lv_bipush (v := 116) hx hb dX8_init_695 (by decide) ?_
  refine lv_sipush (v := 4353) hx hb dX8_init_697 (by decide) ?_
  refine va_iast hx hb hK hP hD hS 1 0 rfl rfl (vp_in_lit (n := 116) rfl (by decide) (by decide)) dX8_init_700 (fun H locs hP hD hS => ?_)
  have eA : upd (sp_tabn 116) (116 : Int32).toNatClampNeg 4353 = sp_tabn 117 := sp_tabn_s (i := 116) (by decide) (by decide)
  rw [eA] at hP hD
  have hP : va_P (dC, dI) vwCl [(m0, .inr (7, [.int 0, .null, .int 0, .int 0, .int 0, .int 0, .null, .null, .int 0, .int 0, .int 0, .int 0, .int 0, .null, .int 0, .int 0, .int 0, .int 0, .int 0, .int 0, .int 0, .null, .null, .int 0, .int 0, .int 0, .int 0, .long 0, .long 0, .int 0, .int 0])), (q_8, .inl (cI, 188, .inl (sp_tabn 117)))] H := hP
  have hD : va_D A [(m0, .inr (7, [.int 0, .null, .int 0, .int 0, .int 0, .int 0, .null, .null, .int 0, .int 0, .int 0, .int 0, .int 0, .null, .int 0, .int 0, .int 0, .int 0, .int 0, .int 0, .int 0, .null, .null, .int 0, .int 0, .int 0, .int 0, .long 0, .long 0, .int 0, .int 0])), (q_8, .inl (cI, 188, .inl (sp_tabn 117)))] := hD
  refine lv_dup hx hb dX8_init_701 rfl ?_
  refine lv_bipush (v := 117) hx hb dX8_init_702 (by decide) ?_
  refine lv_bipush (v := 30) hx hb dX8_init_704 (by decide) ?_
  refine va_iast hx hb hK hP hD hS 1 0 rfl rfl (vp_in_lit (n := 117) rfl (by decide) (by decide)) dX8_init_706 (fun H locs hP hD hS => ?_)
  have eA : upd (sp_tabn 117) (117 : Int32).toNatClampNeg 30 = sp_tabn 118 := sp_tabn_s (i := 117) (by decide) (by decide)
  rw [eA] at hP hD
  have hP : va_P (dC, dI) vwCl [(m0, .inr (7, [.int 0, .null, .int 0, .int 0, .int 0, .int 0, .null, .null, .int 0, .int 0, .int 0, .int 0, .int 0, .null, .int 0, .int 0, .int 0, .int 0, .int 0, .int 0, .int 0, .null, .null, .int 0, .int 0, .int 0, .int 0, .long 0, .long 0, .int 0, .int 0])), (q_8, .inl (cI, 188, .inl (sp_tabn 118)))] H := hP
  have hD : va_D A [(m0, .inr (7, [.int 0, .null, .int 0, .int 0, .int 0, .int 0, .null, .null, .int 0, .int 0, .int 0, .int 0, .int 0, .null, .int 0, .int 0, .int 0, .int 0, .int 0, .int 0, .int 0, .null, .null, .int 0, .int 0, .int 0, .int 0, .long 0, .long 0, .int 0, .int 0])), (q_8, .inl (cI, 188, .inl (sp_tabn 118)))] := hD
  refine lv_dup hx hb dX8_init_707 rfl ?_
  refine lv_bipush (v := 118) hx hb dX8_init_708 (by decide) ?_
  refine lv_bipush (v := 27) hx hb dX8_init_710 (by decide) ?_
  refine va_iast hx hb hK hP hD hS 1 0 rfl rfl (vp_in_lit (n := 118) rfl (by decide) (by decide)) dX8_init_712 (fun H locs hP hD hS => ?_)
  have eA : upd (sp_tabn 118) (118 : Int32).toNatClampNeg 27 = sp_tabn 119 := sp_tabn_s (i := 118) (by decide) (by decide)
  rw [eA] at hP hD
  have hP : va_P (dC, dI) vwCl [(m0, .inr (7, [.int 0, .null, .int 0, .int 0, .int 0, .int 0, .null, .null, .int 0, .int 0, .int 0, .int 0, .int 0, .null, .int 0, .int 0, .int 0, .int 0, .int 0, .int 0, .int 0, .null, .null, .int 0, .int 0, .int 0, .int 0, .long 0, .long 0, .int 0, .int 0])), (q_8, .inl (cI, 188, .inl (sp_tabn 119)))] H := hP
  have hD : va_D A [(m0, .inr (7, [.int 0, .null, .int 0, .int 0, .int 0, .int 0, .null, .null, .int 0, .int 0, .int 0, .int 0, .int 0, .null, .int 0, .int 0, .int 0, .int 0, .int 0, .int 0, .int 0, .null, .null, .int 0, .int 0, .int 0, .int 0, .long 0, .long 0, .int 0, .int 0])), (q_8, .inl (cI, 188, .inl (sp_tabn 119)))] := hD
  refine lv_dup hx hb dX8_init_713 rfl ?_
  refine lv_bipush (v := 119) hx hb dX8_init_714 (by decide) ?_
  refine lv_iconst (v := 0) hx hb dX8_init_716 (by decide) ?_
  refine va_iast hx hb hK hP hD hS 1 0 rfl rfl (vp_in_lit (n := 119) rfl (by decide) (by decide)) dX8_init_717 (fun H locs hP hD hS => ?_)
  have eA : upd (sp_tabn 119) (119 : Int32).toNatClampNeg 0 = sp_tabn 120 := sp_tabn_s (i := 119) (by decide) (by decide)
  rw [eA] at hP hD
  have hP : va_P (dC, dI) vwCl [(m0, .inr (7, [.int 0, .null, .int 0, .int 0, .int 0, .int 0, .null, .null, .int 0, .int 0, .int 0, .int 0, .int 0, .null, .int 0, .int 0, .int 0, .int 0, .int 0, .int 0, .int 0, .null, .null, .int 0, .int 0, .int 0, .int 0, .long 0, .long 0, .int 0, .int 0])), (q_8, .inl (cI, 188, .inl (sp_tabn 120)))] H := hP
  have hD : va_D A [(m0, .inr (7, [.int 0, .null, .int 0, .int 0, .int 0, .int 0, .null, .null, .int 0, .int 0, .int 0, .int 0, .int 0, .null, .int 0, .int 0, .int 0, .int 0, .int 0, .int 0, .int 0, .null, .null, .int 0, .int 0, .int 0, .int 0, .long 0, .long 0, .int 0, .int 0])), (q_8, .inl (cI, 188, .inl (sp_tabn 120)))] := hD
  refine lv_dup hx hb dX8_init_718 rfl ?_
  refine lv_bipush (v := 120) hx hb dX8_init_719 (by decide) ?_
  refine lv_sipush (v := 2753) hx hb dX8_init_721 (by decide) ?_
  refine va_iast hx hb hK hP hD hS 1 0 rfl rfl (vp_in_lit (n := 120) rfl (by decide) (by decide)) dX8_init_724 (fun H locs hP hD hS => ?_)
  have eA : upd (sp_tabn 120) (120 : Int32).toNatClampNeg 2753 = sp_tabn 121 := sp_tabn_s (i := 120) (by decide) (by decide)
  rw [eA] at hP hD
  have hP : va_P (dC, dI) vwCl [(m0, .inr (7, [.int 0, .null, .int 0, .int 0, .int 0, .int 0, .null, .null, .int 0, .int 0, .int 0, .int 0, .int 0, .null, .int 0, .int 0, .int 0, .int 0, .int 0, .int 0, .int 0, .null, .null, .int 0, .int 0, .int 0, .int 0, .long 0, .long 0, .int 0, .int 0])), (q_8, .inl (cI, 188, .inl (sp_tabn 121)))] H := hP
  have hD : va_D A [(m0, .inr (7, [.int 0, .null, .int 0, .int 0, .int 0, .int 0, .null, .null, .int 0, .int 0, .int 0, .int 0, .int 0, .null, .int 0, .int 0, .int 0, .int 0, .int 0, .int 0, .int 0, .null, .null, .int 0, .int 0, .int 0, .int 0, .long 0, .long 0, .int 0, .int 0])), (q_8, .inl (cI, 188, .inl (sp_tabn 121)))] := hD
  refine lv_dup hx hb dX8_init_725 rfl ?_
  refine lv_bipush (v := 121) hx hb dX8_init_726 (by decide) ?_
  refine lv_bipush (v := 31) hx hb dX8_init_728 (by decide) ?_
  refine va_iast hx hb hK hP hD hS 1 0 rfl rfl (vp_in_lit (n := 121) rfl (by decide) (by decide)) dX8_init_730 (fun H locs hP hD hS => ?_)
  have eA : upd (sp_tabn 121) (121 : Int32).toNatClampNeg 31 = sp_tabn 122 := sp_tabn_s (i := 121) (by decide) (by decide)
  rw [eA] at hP hD
  have hP : va_P (dC, dI) vwCl [(m0, .inr (7, [.int 0, .null, .int 0, .int 0, .int 0, .int 0, .null, .null, .int 0, .int 0, .int 0, .int 0, .int 0, .null, .int 0, .int 0, .int 0, .int 0, .int 0, .int 0, .int 0, .null, .null, .int 0, .int 0, .int 0, .int 0, .long 0, .long 0, .int 0, .int 0])), (q_8, .inl (cI, 188, .inl (sp_tabn 122)))] H := hP
  have hD : va_D A [(m0, .inr (7, [.int 0, .null, .int 0, .int 0, .int 0, .int 0, .null, .null, .int 0, .int 0, .int 0, .int 0, .int 0, .null, .int 0, .int 0, .int 0, .int 0, .int 0, .int 0, .int 0, .null, .null, .int 0, .int 0, .int 0, .int 0, .long 0, .long 0, .int 0, .int 0])), (q_8, .inl (cI, 188, .inl (sp_tabn 122)))] := hD
  refine lv_dup hx hb dX8_init_731 rfl ?_
  refine lv_bipush (v := 122) hx hb dX8_init_732 (by decide) ?_
  refine lv_bipush (v := 28) hx hb dX8_init_734 (by decide) ?_
  refine va_iast hx hb hK hP hD hS 1 0 rfl rfl (vp_in_lit (n := 122) rfl (by decide) (by decide)) dX8_init_736 (fun H locs hP hD hS => ?_)
  have eA : upd (sp_tabn 122) (122 : Int32).toNatClampNeg 28 = sp_tabn 123 := sp_tabn_s (i := 122) (by decide) (by decide)
  rw [eA] at hP hD
  have hP : va_P (dC, dI) vwCl [(m0, .inr (7, [.int 0, .null, .int 0, .int 0, .int 0, .int 0, .null, .null, .int 0, .int 0, .int 0, .int 0, .int 0, .null, .int 0, .int 0, .int 0, .int 0, .int 0, .int 0, .int 0, .null, .null, .int 0, .int 0, .int 0, .int 0, .long 0, .long 0, .int 0, .int 0])), (q_8, .inl (cI, 188, .inl (sp_tabn 123)))] H := hP
  have hD : va_D A [(m0, .inr (7, [.int 0, .null, .int 0, .int 0, .int 0, .int 0, .null, .null, .int 0, .int 0, .int 0, .int 0, .int 0, .null, .int 0, .int 0, .int 0, .int 0, .int 0, .int 0, .int 0, .null, .null, .int 0, .int 0, .int 0, .int 0, .long 0, .long 0, .int 0, .int 0])), (q_8, .inl (cI, 188, .inl (sp_tabn 123)))] := hD
  refine lv_dup hx hb dX8_init_737 rfl ?_
  refine lv_bipush (v := 123) hx hb dX8_init_738 (by decide) ?_
  refine lv_iconst (v := 0) hx hb dX8_init_740 (by decide) ?_
  refine va_iast hx hb hK hP hD hS 1 0 rfl rfl (vp_in_lit (n := 123) rfl (by decide) (by decide)) dX8_init_741 (fun H locs hP hD hS => ?_)
  have eA : upd (sp_tabn 123) (123 : Int32).toNatClampNeg 0 = sp_tabn 124 := sp_tabn_s (i := 123) (by decide) (by decide)
  rw [eA] at hP hD
  have hP : va_P (dC, dI) vwCl [(m0, .inr (7, [.int 0, .null, .int 0, .int 0, .int 0, .int 0, .null, .null, .int 0, .int 0, .int 0, .int 0, .int 0, .null, .int 0, .int 0, .int 0, .int 0, .int 0, .int 0, .int 0, .null, .null, .int 0, .int 0, .int 0, .int 0, .long 0, .long 0, .int 0, .int 0])), (q_8, .inl (cI, 188, .inl (sp_tabn 124)))] H := hP
  have hD : va_D A [(m0, .inr (7, [.int 0, .null, .int 0, .int 0, .int 0, .int 0, .null, .null, .int 0, .int 0, .int 0, .int 0, .int 0, .null, .int 0, .int 0, .int 0, .int 0, .int 0, .int 0, .int 0, .null, .null, .int 0, .int 0, .int 0, .int 0, .long 0, .long 0, .int 0, .int 0])), (q_8, .inl (cI, 188, .inl (sp_tabn 124)))] := hD
  refine lv_dup hx hb dX8_init_742 rfl ?_
  refine lv_bipush (v := 124) hx hb dX8_init_743 (by decide) ?_
  refine lv_sipush (v := 2497) hx hb dX8_init_745 (by decide) ?_
  refine va_iast hx hb hK hP hD hS 1 0 rfl rfl (vp_in_lit (n := 124) rfl (by decide) (by decide)) dX8_init_748 (fun H locs hP hD hS => ?_)
  have eA : upd (sp_tabn 124) (124 : Int32).toNatClampNeg 2497 = sp_tabn 125 := sp_tabn_s (i := 124) (by decide) (by decide)
  rw [eA] at hP hD
  have hP : va_P (dC, dI) vwCl [(m0, .inr (7, [.int 0, .null, .int 0, .int 0, .int 0, .int 0, .null, .null, .int 0, .int 0, .int 0, .int 0, .int 0, .null, .int 0, .int 0, .int 0, .int 0, .int 0, .int 0, .int 0, .null, .null, .int 0, .int 0, .int 0, .int 0, .long 0, .long 0, .int 0, .int 0])), (q_8, .inl (cI, 188, .inl (sp_tabn 125)))] H := hP
  have hD : va_D A [(m0, .inr (7, [.int 0, .null, .int 0, .int 0, .int 0, .int 0, .null, .null, .int 0, .int 0, .int 0, .int 0, .int 0, .null, .int 0, .int 0, .int 0, .int 0, .int 0, .int 0, .int 0, .null, .null, .int 0, .int 0, .int 0, .int 0, .long 0, .long 0, .int 0, .int 0])), (q_8, .inl (cI, 188, .inl (sp_tabn 125)))] := hD
  refine lv_dup hx hb dX8_init_749 rfl ?_
  refine lv_bipush (v := 125) hx hb dX8_init_750 (by decide) ?_
  refine lv_bipush (v := 32) hx hb dX8_init_752 (by decide) ?_
  refine va_iast hx hb hK hP hD hS 1 0 rfl rfl (vp_in_lit (n := 125) rfl (by decide) (by decide)) dX8_init_754 (fun H locs hP hD hS => ?_)
  have eA : upd (sp_tabn 125) (125 : Int32).toNatClampNeg 32 = sp_tabn 126 := sp_tabn_s (i := 125) (by decide) (by decide)
  rw [eA] at hP hD
  have hP : va_P (dC, dI) vwCl [(m0, .inr (7, [.int 0, .null, .int 0, .int 0, .int 0, .int 0, .null, .null, .int 0, .int 0, .int 0, .int 0, .int 0, .null, .int 0, .int 0, .int 0, .int 0, .int 0, .int 0, .int 0, .null, .null, .int 0, .int 0, .int 0, .int 0, .long 0, .long 0, .int 0, .int 0])), (q_8, .inl (cI, 188, .inl (sp_tabn 126)))] H := hP
  have hD : va_D A [(m0, .inr (7, [.int 0, .null, .int 0, .int 0, .int 0, .int 0, .null, .null, .int 0, .int 0, .int 0, .int 0, .int 0, .null, .int 0, .int 0, .int 0, .int 0, .int 0, .int 0, .int 0, .null, .null, .int 0, .int 0, .int 0, .int 0, .long 0, .long 0, .int 0, .int 0])), (q_8, .inl (cI, 188, .inl (sp_tabn 126)))] := hD
  refine lv_dup hx hb dX8_init_755 rfl ?_
  refine lv_bipush (v := 126) hx hb dX8_init_756 (by decide) ?_
  refine lv_bipush (v := 29) hx hb dX8_init_758 (by decide) ?_
  refine va_iast hx hb hK hP hD hS 1 0 rfl rfl (vp_in_lit (n := 126) rfl (by decide) (by decide)) dX8_init_760 (fun H locs hP hD hS => ?_)
  have eA : upd (sp_tabn 126) (126 : Int32).toNatClampNeg 29 = sp_tabn 127 := sp_tabn_s (i := 126) (by decide) (by decide)
  rw [eA] at hP hD
  have hP : va_P (dC, dI) vwCl [(m0, .inr (7, [.int 0, .null, .int 0, .int 0, .int 0, .int 0, .null, .null, .int 0, .int 0, .int 0, .int 0, .int 0, .null, .int 0, .int 0, .int 0, .int 0, .int 0, .int 0, .int 0, .null, .null, .int 0, .int 0, .int 0, .int 0, .long 0, .long 0, .int 0, .int 0])), (q_8, .inl (cI, 188, .inl (sp_tabn 127)))] H := hP
  have hD : va_D A [(m0, .inr (7, [.int 0, .null, .int 0, .int 0, .int 0, .int 0, .null, .null, .int 0, .int 0, .int 0, .int 0, .int 0, .null, .int 0, .int 0, .int 0, .int 0, .int 0, .int 0, .int 0, .null, .null, .int 0, .int 0, .int 0, .int 0, .long 0, .long 0, .int 0, .int 0])), (q_8, .inl (cI, 188, .inl (sp_tabn 127)))] := hD
  refine lv_dup hx hb dX8_init_761 rfl ?_
  refine lv_bipush (v := 127) hx hb dX8_init_762 (by decide) ?_
  refine lv_iconst (v := 0) hx hb dX8_init_764 (by decide) ?_
  refine va_iast hx hb hK hP hD hS 1 0 rfl rfl (vp_in_lit (n := 127) rfl (by decide) (by decide)) dX8_init_765 (fun H locs hP hD hS => ?_)
  have eA : upd (sp_tabn 127) (127 : Int32).toNatClampNeg 0 = sp_tabn 128 := sp_tabn_s (i := 127) (by decide) (by decide)
  rw [eA] at hP hD
  have hP : va_P (dC, dI) vwCl [(m0, .inr (7, [.int 0, .null, .int 0, .int 0, .int 0, .int 0, .null, .null, .int 0, .int 0, .int 0, .int 0, .int 0, .null, .int 0, .int 0, .int 0, .int 0, .int 0, .int 0, .int 0, .null, .null, .int 0, .int 0, .int 0, .int 0, .long 0, .long 0, .int 0, .int 0])), (q_8, .inl (cI, 188, .inl (sp_tabn 128)))] H := hP
  have hD : va_D A [(m0, .inr (7, [.int 0, .null, .int 0, .int 0, .int 0, .int 0, .null, .null, .int 0, .int 0, .int 0, .int 0, .int 0, .null, .int 0, .int 0, .int 0, .int 0, .int 0, .int 0, .int 0, .null, .null, .int 0, .int 0, .int 0, .int 0, .long 0, .long 0, .int 0, .int 0])), (q_8, .inl (cI, 188, .inl (sp_tabn 128)))] := hD
  refine lv_dup hx hb dX8_init_766 rfl ?_
  refine lv_sipush (v := 128) hx hb dX8_init_767 (by decide) ?_
  refine lv_sipush (v := 2209) hx hb dX8_init_770 (by decide) ?_
  refine va_iast hx hb hK hP hD hS 1 0 rfl rfl (vp_in_lit (n := 128) rfl (by decide) (by decide)) dX8_init_773 (fun H locs hP hD hS => ?_)
  have eA : upd (sp_tabn 128) (128 : Int32).toNatClampNeg 2209 = sp_tabn 129 := sp_tabn_s (i := 128) (by decide) (by decide)
  rw [eA] at hP hD
  have hP : va_P (dC, dI) vwCl [(m0, .inr (7, [.int 0, .null, .int 0, .int 0, .int 0, .int 0, .null, .null, .int 0, .int 0, .int 0, .int 0, .int 0, .null, .int 0, .int 0, .int 0, .int 0, .int 0, .int 0, .int 0, .null, .null, .int 0, .int 0, .int 0, .int 0, .long 0, .long 0, .int 0, .int 0])), (q_8, .inl (cI, 188, .inl (sp_tabn 129)))] H := hP
  have hD : va_D A [(m0, .inr (7, [.int 0, .null, .int 0, .int 0, .int 0, .int 0, .null, .null, .int 0, .int 0, .int 0, .int 0, .int 0, .null, .int 0, .int 0, .int 0, .int 0, .int 0, .int 0, .int 0, .null, .null, .int 0, .int 0, .int 0, .int 0, .long 0, .long 0, .int 0, .int 0])), (q_8, .inl (cI, 188, .inl (sp_tabn 129)))] := hD
  refine lv_dup hx hb dX8_init_774 rfl ?_
  refine lv_sipush (v := 129) hx hb dX8_init_775 (by decide) ?_
  refine lv_bipush (v := 33) hx hb dX8_init_778 (by decide) ?_
  refine va_iast hx hb hK hP hD hS 1 0 rfl rfl (vp_in_lit (n := 129) rfl (by decide) (by decide)) dX8_init_780 (fun H locs hP hD hS => ?_)
  have eA : upd (sp_tabn 129) (129 : Int32).toNatClampNeg 33 = sp_tabn 130 := sp_tabn_s (i := 129) (by decide) (by decide)
  rw [eA] at hP hD
  have hP : va_P (dC, dI) vwCl [(m0, .inr (7, [.int 0, .null, .int 0, .int 0, .int 0, .int 0, .null, .null, .int 0, .int 0, .int 0, .int 0, .int 0, .null, .int 0, .int 0, .int 0, .int 0, .int 0, .int 0, .int 0, .null, .null, .int 0, .int 0, .int 0, .int 0, .long 0, .long 0, .int 0, .int 0])), (q_8, .inl (cI, 188, .inl (sp_tabn 130)))] H := hP
  have hD : va_D A [(m0, .inr (7, [.int 0, .null, .int 0, .int 0, .int 0, .int 0, .null, .null, .int 0, .int 0, .int 0, .int 0, .int 0, .null, .int 0, .int 0, .int 0, .int 0, .int 0, .int 0, .int 0, .null, .null, .int 0, .int 0, .int 0, .int 0, .long 0, .long 0, .int 0, .int 0])), (q_8, .inl (cI, 188, .inl (sp_tabn 130)))] := hD
  refine lv_dup hx hb dX8_init_781 rfl ?_
  refine lv_sipush (v := 130) hx hb dX8_init_782 (by decide) ?_
  refine lv_bipush (v := 30) hx hb dX8_init_785 (by decide) ?_
  refine va_iast hx hb hK hP hD hS 1 0 rfl rfl (vp_in_lit (n := 130) rfl (by decide) (by decide)) dX8_init_787 (fun H locs hP hD hS => ?_)
  have eA : upd (sp_tabn 130) (130 : Int32).toNatClampNeg 30 = sp_tabn 131 := sp_tabn_s (i := 130) (by decide) (by decide)
  rw [eA] at hP hD
  have hP : va_P (dC, dI) vwCl [(m0, .inr (7, [.int 0, .null, .int 0, .int 0, .int 0, .int 0, .null, .null, .int 0, .int 0, .int 0, .int 0, .int 0, .null, .int 0, .int 0, .int 0, .int 0, .int 0, .int 0, .int 0, .null, .null, .int 0, .int 0, .int 0, .int 0, .long 0, .long 0, .int 0, .int 0])), (q_8, .inl (cI, 188, .inl (sp_tabn 131)))] H := hP
  have hD : va_D A [(m0, .inr (7, [.int 0, .null, .int 0, .int 0, .int 0, .int 0, .null, .null, .int 0, .int 0, .int 0, .int 0, .int 0, .null, .int 0, .int 0, .int 0, .int 0, .int 0, .int 0, .int 0, .null, .null, .int 0, .int 0, .int 0, .int 0, .long 0, .long 0, .int 0, .int 0])), (q_8, .inl (cI, 188, .inl (sp_tabn 131)))] := hD
  refine lv_dup hx hb dX8_init_788 rfl ?_
  refine lv_sipush (v := 131) hx hb dX8_init_789 (by decide) ?_
  refine lv_iconst (v := 0) hx hb dX8_init_792 (by decide) ?_
  refine va_iast hx hb hK hP hD hS 1 0 rfl rfl (vp_in_lit (n := 131) rfl (by decide) (by decide)) dX8_init_793 (fun H locs hP hD hS => ?_)
  have eA : upd (sp_tabn 131) (131 : Int32).toNatClampNeg 0 = sp_tabn 132 := sp_tabn_s (i := 131) (by decide) (by decide)
  rw [eA] at hP hD
  have hP : va_P (dC, dI) vwCl [(m0, .inr (7, [.int 0, .null, .int 0, .int 0, .int 0, .int 0, .null, .null, .int 0, .int 0, .int 0, .int 0, .int 0, .null, .int 0, .int 0, .int 0, .int 0, .int 0, .int 0, .int 0, .null, .null, .int 0, .int 0, .int 0, .int 0, .long 0, .long 0, .int 0, .int 0])), (q_8, .inl (cI, 188, .inl (sp_tabn 132)))] H := hP
  have hD : va_D A [(m0, .inr (7, [.int 0, .null, .int 0, .int 0, .int 0, .int 0, .null, .null, .int 0, .int 0, .int 0, .int 0, .int 0, .null, .int 0, .int 0, .int 0, .int 0, .int 0, .int 0, .int 0, .null, .null, .int 0, .int 0, .int 0, .int 0, .long 0, .long 0, .int 0, .int 0])), (q_8, .inl (cI, 188, .inl (sp_tabn 132)))] := hD
  refine lv_dup hx hb dX8_init_794 rfl ?_
  refine lv_sipush (v := 132) hx hb dX8_init_795 (by decide) ?_
  refine lv_sipush (v := 1313) hx hb dX8_init_798 (by decide) ?_
  refine va_iast hx hb hK hP hD hS 1 0 rfl rfl (vp_in_lit (n := 132) rfl (by decide) (by decide)) dX8_init_801 (fun H locs hP hD hS => ?_)
  have eA : upd (sp_tabn 132) (132 : Int32).toNatClampNeg 1313 = sp_tabn 133 := sp_tabn_s (i := 132) (by decide) (by decide)
  rw [eA] at hP hD
  have hP : va_P (dC, dI) vwCl [(m0, .inr (7, [.int 0, .null, .int 0, .int 0, .int 0, .int 0, .null, .null, .int 0, .int 0, .int 0, .int 0, .int 0, .null, .int 0, .int 0, .int 0, .int 0, .int 0, .int 0, .int 0, .null, .null, .int 0, .int 0, .int 0, .int 0, .long 0, .long 0, .int 0, .int 0])), (q_8, .inl (cI, 188, .inl (sp_tabn 133)))] H := hP
  have hD : va_D A [(m0, .inr (7, [.int 0, .null, .int 0, .int 0, .int 0, .int 0, .null, .null, .int 0, .int 0, .int 0, .int 0, .int 0, .null, .int 0, .int 0, .int 0, .int 0, .int 0, .int 0, .int 0, .null, .null, .int 0, .int 0, .int 0, .int 0, .long 0, .long 0, .int 0, .int 0])), (q_8, .inl (cI, 188, .inl (sp_tabn 133)))] := hD
  refine lv_dup hx hb dX8_init_802 rfl ?_
  refine lv_sipush (v := 133) hx hb dX8_init_803 (by decide) ?_
  refine lv_bipush (v := 34) hx hb dX8_init_806 (by decide) ?_
  refine va_iast hx hb hK hP hD hS 1 0 rfl rfl (vp_in_lit (n := 133) rfl (by decide) (by decide)) dX8_init_808 (fun H locs hP hD hS => ?_)
  have eA : upd (sp_tabn 133) (133 : Int32).toNatClampNeg 34 = sp_tabn 134 := sp_tabn_s (i := 133) (by decide) (by decide)
  rw [eA] at hP hD
  have hP : va_P (dC, dI) vwCl [(m0, .inr (7, [.int 0, .null, .int 0, .int 0, .int 0, .int 0, .null, .null, .int 0, .int 0, .int 0, .int 0, .int 0, .null, .int 0, .int 0, .int 0, .int 0, .int 0, .int 0, .int 0, .null, .null, .int 0, .int 0, .int 0, .int 0, .long 0, .long 0, .int 0, .int 0])), (q_8, .inl (cI, 188, .inl (sp_tabn 134)))] H := hP
  have hD : va_D A [(m0, .inr (7, [.int 0, .null, .int 0, .int 0, .int 0, .int 0, .null, .null, .int 0, .int 0, .int 0, .int 0, .int 0, .null, .int 0, .int 0, .int 0, .int 0, .int 0, .int 0, .int 0, .null, .null, .int 0, .int 0, .int 0, .int 0, .long 0, .long 0, .int 0, .int 0])), (q_8, .inl (cI, 188, .inl (sp_tabn 134)))] := hD
  refine lv_dup hx hb dX8_init_809 rfl ?_
  refine lv_sipush (v := 134) hx hb dX8_init_810 (by decide) ?_
  refine lv_bipush (v := 31) hx hb dX8_init_813 (by decide) ?_
  refine va_iast hx hb hK hP hD hS 1 0 rfl rfl (vp_in_lit (n := 134) rfl (by decide) (by decide)) dX8_init_815 (fun H locs hP hD hS => ?_)
  have eA : upd (sp_tabn 134) (134 : Int32).toNatClampNeg 31 = sp_tabn 135 := sp_tabn_s (i := 134) (by decide) (by decide)
  rw [eA] at hP hD
  have hP : va_P (dC, dI) vwCl [(m0, .inr (7, [.int 0, .null, .int 0, .int 0, .int 0, .int 0, .null, .null, .int 0, .int 0, .int 0, .int 0, .int 0, .null, .int 0, .int 0, .int 0, .int 0, .int 0, .int 0, .int 0, .null, .null, .int 0, .int 0, .int 0, .int 0, .long 0, .long 0, .int 0, .int 0])), (q_8, .inl (cI, 188, .inl (sp_tabn 135)))] H := hP
  have hD : va_D A [(m0, .inr (7, [.int 0, .null, .int 0, .int 0, .int 0, .int 0, .null, .null, .int 0, .int 0, .int 0, .int 0, .int 0, .null, .int 0, .int 0, .int 0, .int 0, .int 0, .int 0, .int 0, .null, .null, .int 0, .int 0, .int 0, .int 0, .long 0, .long 0, .int 0, .int 0])), (q_8, .inl (cI, 188, .inl (sp_tabn 135)))] := hD
  refine lv_dup hx hb dX8_init_816 rfl ?_
  refine lv_sipush (v := 135) hx hb dX8_init_817 (by decide) ?_
  refine lv_iconst (v := 0) hx hb dX8_init_820 (by decide) ?_
  refine va_iast hx hb hK hP hD hS 1 0 rfl rfl (vp_in_lit (n := 135) rfl (by decide) (by decide)) dX8_init_821 (fun H locs hP hD hS => ?_)
  have eA : upd (sp_tabn 135) (135 : Int32).toNatClampNeg 0 = sp_tabn 136 := sp_tabn_s (i := 135) (by decide) (by decide)
  rw [eA] at hP hD
  have hP : va_P (dC, dI) vwCl [(m0, .inr (7, [.int 0, .null, .int 0, .int 0, .int 0, .int 0, .null, .null, .int 0, .int 0, .int 0, .int 0, .int 0, .null, .int 0, .int 0, .int 0, .int 0, .int 0, .int 0, .int 0, .null, .null, .int 0, .int 0, .int 0, .int 0, .long 0, .long 0, .int 0, .int 0])), (q_8, .inl (cI, 188, .inl (sp_tabn 136)))] H := hP
  have hD : va_D A [(m0, .inr (7, [.int 0, .null, .int 0, .int 0, .int 0, .int 0, .null, .null, .int 0, .int 0, .int 0, .int 0, .int 0, .null, .int 0, .int 0, .int 0, .int 0, .int 0, .int 0, .int 0, .null, .null, .int 0, .int 0, .int 0, .int 0, .long 0, .long 0, .int 0, .int 0])), (q_8, .inl (cI, 188, .inl (sp_tabn 136)))] := hD
  refine lv_dup hx hb dX8_init_822 rfl ?_
  refine lv_sipush (v := 136) hx hb dX8_init_823 (by decide) ?_
  refine lv_sipush (v := 1089) hx hb dX8_init_826 (by decide) ?_
  refine va_iast hx hb hK hP hD hS 1 0 rfl rfl (vp_in_lit (n := 136) rfl (by decide) (by decide)) dX8_init_829 (fun H locs hP hD hS => ?_)
  have eA : upd (sp_tabn 136) (136 : Int32).toNatClampNeg 1089 = sp_tabn 137 := sp_tabn_s (i := 136) (by decide) (by decide)
  rw [eA] at hP hD
  have hP : va_P (dC, dI) vwCl [(m0, .inr (7, [.int 0, .null, .int 0, .int 0, .int 0, .int 0, .null, .null, .int 0, .int 0, .int 0, .int 0, .int 0, .null, .int 0, .int 0, .int 0, .int 0, .int 0, .int 0, .int 0, .null, .null, .int 0, .int 0, .int 0, .int 0, .long 0, .long 0, .int 0, .int 0])), (q_8, .inl (cI, 188, .inl (sp_tabn 137)))] H := hP
  have hD : va_D A [(m0, .inr (7, [.int 0, .null, .int 0, .int 0, .int 0, .int 0, .null, .null, .int 0, .int 0, .int 0, .int 0, .int 0, .null, .int 0, .int 0, .int 0, .int 0, .int 0, .int 0, .int 0, .null, .null, .int 0, .int 0, .int 0, .int 0, .long 0, .long 0, .int 0, .int 0])), (q_8, .inl (cI, 188, .inl (sp_tabn 137)))] := hD
  refine lv_dup hx hb dX8_init_830 rfl ?_
  refine lv_sipush (v := 137) hx hb dX8_init_831 (by decide) ?_
  refine lv_bipush (v := 35) hx hb dX8_init_834 (by decide) ?_
  refine va_iast hx hb hK hP hD hS 1 0 rfl rfl (vp_in_lit (n := 137) rfl (by decide) (by decide)) dX8_init_836 (fun H locs hP hD hS => ?_)
  have eA : upd (sp_tabn 137) (137 : Int32).toNatClampNeg 35 = sp_tabn 138 := sp_tabn_s (i := 137) (by decide) (by decide)
  rw [eA] at hP hD
  have hP : va_P (dC, dI) vwCl [(m0, .inr (7, [.int 0, .null, .int 0, .int 0, .int 0, .int 0, .null, .null, .int 0, .int 0, .int 0, .int 0, .int 0, .null, .int 0, .int 0, .int 0, .int 0, .int 0, .int 0, .int 0, .null, .null, .int 0, .int 0, .int 0, .int 0, .long 0, .long 0, .int 0, .int 0])), (q_8, .inl (cI, 188, .inl (sp_tabn 138)))] H := hP
  have hD : va_D A [(m0, .inr (7, [.int 0, .null, .int 0, .int 0, .int 0, .int 0, .null, .null, .int 0, .int 0, .int 0, .int 0, .int 0, .null, .int 0, .int 0, .int 0, .int 0, .int 0, .int 0, .int 0, .null, .null, .int 0, .int 0, .int 0, .int 0, .long 0, .long 0, .int 0, .int 0])), (q_8, .inl (cI, 188, .inl (sp_tabn 138)))] := hD
  refine lv_dup hx hb dX8_init_837 rfl ?_
  refine lv_sipush (v := 138) hx hb dX8_init_838 (by decide) ?_
  refine lv_bipush (v := 32) hx hb dX8_init_841 (by decide) ?_
  refine va_iast hx hb hK hP hD hS 1 0 rfl rfl (vp_in_lit (n := 138) rfl (by decide) (by decide)) dX8_init_843 (fun H locs hP hD hS => ?_)
  have eA : upd (sp_tabn 138) (138 : Int32).toNatClampNeg 32 = sp_tabn 139 := sp_tabn_s (i := 138) (by decide) (by decide)
  rw [eA] at hP hD
  have hP : va_P (dC, dI) vwCl [(m0, .inr (7, [.int 0, .null, .int 0, .int 0, .int 0, .int 0, .null, .null, .int 0, .int 0, .int 0, .int 0, .int 0, .null, .int 0, .int 0, .int 0, .int 0, .int 0, .int 0, .int 0, .null, .null, .int 0, .int 0, .int 0, .int 0, .long 0, .long 0, .int 0, .int 0])), (q_8, .inl (cI, 188, .inl (sp_tabn 139)))] H := hP
  have hD : va_D A [(m0, .inr (7, [.int 0, .null, .int 0, .int 0, .int 0, .int 0, .null, .null, .int 0, .int 0, .int 0, .int 0, .int 0, .null, .int 0, .int 0, .int 0, .int 0, .int 0, .int 0, .int 0, .null, .null, .int 0, .int 0, .int 0, .int 0, .long 0, .long 0, .int 0, .int 0])), (q_8, .inl (cI, 188, .inl (sp_tabn 139)))] := hD
  refine lv_dup hx hb dX8_init_844 rfl ?_
  refine lv_sipush (v := 139) hx hb dX8_init_845 (by decide) ?_
  refine lv_iconst (v := 0) hx hb dX8_init_848 (by decide) ?_
  refine va_iast hx hb hK hP hD hS 1 0 rfl rfl (vp_in_lit (n := 139) rfl (by decide) (by decide)) dX8_init_849 (fun H locs hP hD hS => ?_)
  have eA : upd (sp_tabn 139) (139 : Int32).toNatClampNeg 0 = sp_tabn 140 := sp_tabn_s (i := 139) (by decide) (by decide)
  rw [eA] at hP hD
  have hP : va_P (dC, dI) vwCl [(m0, .inr (7, [.int 0, .null, .int 0, .int 0, .int 0, .int 0, .null, .null, .int 0, .int 0, .int 0, .int 0, .int 0, .null, .int 0, .int 0, .int 0, .int 0, .int 0, .int 0, .int 0, .null, .null, .int 0, .int 0, .int 0, .int 0, .long 0, .long 0, .int 0, .int 0])), (q_8, .inl (cI, 188, .inl (sp_tabn 140)))] H := hP
  have hD : va_D A [(m0, .inr (7, [.int 0, .null, .int 0, .int 0, .int 0, .int 0, .null, .null, .int 0, .int 0, .int 0, .int 0, .int 0, .null, .int 0, .int 0, .int 0, .int 0, .int 0, .int 0, .int 0, .null, .null, .int 0, .int 0, .int 0, .int 0, .long 0, .long 0, .int 0, .int 0])), (q_8, .inl (cI, 188, .inl (sp_tabn 140)))] := hD
  refine lv_dup hx hb dX8_init_850 rfl ?_
  refine lv_sipush (v := 140) hx hb dX8_init_851 (by decide) ?_
  refine lv_sipush (v := 673) hx hb dX8_init_854 (by decide) ?_
  refine va_iast hx hb hK hP hD hS 1 0 rfl rfl (vp_in_lit (n := 140) rfl (by decide) (by decide)) dX8_init_857 (fun H locs hP hD hS => ?_)
  have eA : upd (sp_tabn 140) (140 : Int32).toNatClampNeg 673 = sp_tabn 141 := sp_tabn_s (i := 140) (by decide) (by decide)
  rw [eA] at hP hD
  have hP : va_P (dC, dI) vwCl [(m0, .inr (7, [.int 0, .null, .int 0, .int 0, .int 0, .int 0, .null, .null, .int 0, .int 0, .int 0, .int 0, .int 0, .null, .int 0, .int 0, .int 0, .int 0, .int 0, .int 0, .int 0, .null, .null, .int 0, .int 0, .int 0, .int 0, .long 0, .long 0, .int 0, .int 0])), (q_8, .inl (cI, 188, .inl (sp_tabn 141)))] H := hP
  have hD : va_D A [(m0, .inr (7, [.int 0, .null, .int 0, .int 0, .int 0, .int 0, .null, .null, .int 0, .int 0, .int 0, .int 0, .int 0, .null, .int 0, .int 0, .int 0, .int 0, .int 0, .int 0, .int 0, .null, .null, .int 0, .int 0, .int 0, .int 0, .long 0, .long 0, .int 0, .int 0])), (q_8, .inl (cI, 188, .inl (sp_tabn 141)))] := hD
  refine lv_dup hx hb dX8_init_858 rfl ?_
  refine lv_sipush (v := 141) hx hb dX8_init_859 (by decide) ?_
  refine lv_bipush (v := 36) hx hb dX8_init_862 (by decide) ?_
  refine va_iast hx hb hK hP hD hS 1 0 rfl rfl (vp_in_lit (n := 141) rfl (by decide) (by decide)) dX8_init_864 (fun H locs hP hD hS => ?_)
  have eA : upd (sp_tabn 141) (141 : Int32).toNatClampNeg 36 = sp_tabn 142 := sp_tabn_s (i := 141) (by decide) (by decide)
  rw [eA] at hP hD
  have hP : va_P (dC, dI) vwCl [(m0, .inr (7, [.int 0, .null, .int 0, .int 0, .int 0, .int 0, .null, .null, .int 0, .int 0, .int 0, .int 0, .int 0, .null, .int 0, .int 0, .int 0, .int 0, .int 0, .int 0, .int 0, .null, .null, .int 0, .int 0, .int 0, .int 0, .long 0, .long 0, .int 0, .int 0])), (q_8, .inl (cI, 188, .inl (sp_tabn 142)))] H := hP
  have hD : va_D A [(m0, .inr (7, [.int 0, .null, .int 0, .int 0, .int 0, .int 0, .null, .null, .int 0, .int 0, .int 0, .int 0, .int 0, .null, .int 0, .int 0, .int 0, .int 0, .int 0, .int 0, .int 0, .null, .null, .int 0, .int 0, .int 0, .int 0, .long 0, .long 0, .int 0, .int 0])), (q_8, .inl (cI, 188, .inl (sp_tabn 142)))] := hD
  refine lv_dup hx hb dX8_init_865 rfl ?_
  refine lv_sipush (v := 142) hx hb dX8_init_866 (by decide) ?_
  refine lv_bipush (v := 33) hx hb dX8_init_869 (by decide) ?_
  refine va_iast hx hb hK hP hD hS 1 0 rfl rfl (vp_in_lit (n := 142) rfl (by decide) (by decide)) dX8_init_871 (fun H locs hP hD hS => ?_)
  have eA : upd (sp_tabn 142) (142 : Int32).toNatClampNeg 33 = sp_tabn 143 := sp_tabn_s (i := 142) (by decide) (by decide)
  rw [eA] at hP hD
  have hP : va_P (dC, dI) vwCl [(m0, .inr (7, [.int 0, .null, .int 0, .int 0, .int 0, .int 0, .null, .null, .int 0, .int 0, .int 0, .int 0, .int 0, .null, .int 0, .int 0, .int 0, .int 0, .int 0, .int 0, .int 0, .null, .null, .int 0, .int 0, .int 0, .int 0, .long 0, .long 0, .int 0, .int 0])), (q_8, .inl (cI, 188, .inl (sp_tabn 143)))] H := hP
  have hD : va_D A [(m0, .inr (7, [.int 0, .null, .int 0, .int 0, .int 0, .int 0, .null, .null, .int 0, .int 0, .int 0, .int 0, .int 0, .null, .int 0, .int 0, .int 0, .int 0, .int 0, .int 0, .int 0, .null, .null, .int 0, .int 0, .int 0, .int 0, .long 0, .long 0, .int 0, .int 0])), (q_8, .inl (cI, 188, .inl (sp_tabn 143)))] := hD
  refine lv_dup hx hb dX8_init_872 rfl ?_
  refine lv_sipush (v := 143) hx hb dX8_init_873 (by decide) ?_
  refine lv_iconst (v := 0) hx hb dX8_init_876 (by decide) ?_
  refine va_iast hx hb hK hP hD hS 1 0 rfl rfl (vp_in_lit (n := 143) rfl (by decide) (by decide)) dX8_init_877 (fun H locs hP hD hS => ?_)
  have eA : upd (sp_tabn 143) (143 : Int32).toNatClampNeg 0 = sp_tabn 144 := sp_tabn_s (i := 143) (by decide) (by decide)
  rw [eA] at hP hD
  have hP : va_P (dC, dI) vwCl [(m0, .inr (7, [.int 0, .null, .int 0, .int 0, .int 0, .int 0, .null, .null, .int 0, .int 0, .int 0, .int 0, .int 0, .null, .int 0, .int 0, .int 0, .int 0, .int 0, .int 0, .int 0, .null, .null, .int 0, .int 0, .int 0, .int 0, .long 0, .long 0, .int 0, .int 0])), (q_8, .inl (cI, 188, .inl (sp_tabn 144)))] H := hP
  have hD : va_D A [(m0, .inr (7, [.int 0, .null, .int 0, .int 0, .int 0, .int 0, .null, .null, .int 0, .int 0, .int 0, .int 0, .int 0, .null, .int 0, .int 0, .int 0, .int 0, .int 0, .int 0, .int 0, .null, .null, .int 0, .int 0, .int 0, .int 0, .long 0, .long 0, .int 0, .int 0])), (q_8, .inl (cI, 188, .inl (sp_tabn 144)))] := hD
  refine lv_dup hx hb dX8_init_878 rfl ?_
  refine lv_sipush (v := 144) hx hb dX8_init_879 (by decide) ?_
  refine lv_sipush (v := 545) hx hb dX8_init_882 (by decide) ?_
  refine va_iast hx hb hK hP hD hS 1 0 rfl rfl (vp_in_lit (n := 144) rfl (by decide) (by decide)) dX8_init_885 (fun H locs hP hD hS => ?_)
  have eA : upd (sp_tabn 144) (144 : Int32).toNatClampNeg 545 = sp_tabn 145 := sp_tabn_s (i := 144) (by decide) (by decide)
  rw [eA] at hP hD
  have hP : va_P (dC, dI) vwCl [(m0, .inr (7, [.int 0, .null, .int 0, .int 0, .int 0, .int 0, .null, .null, .int 0, .int 0, .int 0, .int 0, .int 0, .null, .int 0, .int 0, .int 0, .int 0, .int 0, .int 0, .int 0, .null, .null, .int 0, .int 0, .int 0, .int 0, .long 0, .long 0, .int 0, .int 0])), (q_8, .inl (cI, 188, .inl (sp_tabn 145)))] H := hP
  have hD : va_D A [(m0, .inr (7, [.int 0, .null, .int 0, .int 0, .int 0, .int 0, .null, .null, .int 0, .int 0, .int 0, .int 0, .int 0, .null, .int 0, .int 0, .int 0, .int 0, .int 0, .int 0, .int 0, .null, .null, .int 0, .int 0, .int 0, .int 0, .long 0, .long 0, .int 0, .int 0])), (q_8, .inl (cI, 188, .inl (sp_tabn 145)))] := hD
  refine lv_dup hx hb dX8_init_886 rfl ?_
  refine lv_sipush (v := 145) hx hb dX8_init_887 (by decide) ?_
  refine lv_bipush (v := 37) hx hb dX8_init_890 (by decide) ?_
  refine va_iast hx hb hK hP hD hS 1 0 rfl rfl (vp_in_lit (n := 145) rfl (by decide) (by decide)) dX8_init_892 (fun H locs hP hD hS => ?_)
  have eA : upd (sp_tabn 145) (145 : Int32).toNatClampNeg 37 = sp_tabn 146 := sp_tabn_s (i := 145) (by decide) (by decide)
  rw [eA] at hP hD
  have hP : va_P (dC, dI) vwCl [(m0, .inr (7, [.int 0, .null, .int 0, .int 0, .int 0, .int 0, .null, .null, .int 0, .int 0, .int 0, .int 0, .int 0, .null, .int 0, .int 0, .int 0, .int 0, .int 0, .int 0, .int 0, .null, .null, .int 0, .int 0, .int 0, .int 0, .long 0, .long 0, .int 0, .int 0])), (q_8, .inl (cI, 188, .inl (sp_tabn 146)))] H := hP
  have hD : va_D A [(m0, .inr (7, [.int 0, .null, .int 0, .int 0, .int 0, .int 0, .null, .null, .int 0, .int 0, .int 0, .int 0, .int 0, .null, .int 0, .int 0, .int 0, .int 0, .int 0, .int 0, .int 0, .null, .null, .int 0, .int 0, .int 0, .int 0, .long 0, .long 0, .int 0, .int 0])), (q_8, .inl (cI, 188, .inl (sp_tabn 146)))] := hD
  refine lv_dup hx hb dX8_init_893 rfl ?_
  refine lv_sipush (v := 146) hx hb dX8_init_894 (by decide) ?_
  refine lv_bipush (v := 34) hx hb dX8_init_897 (by decide) ?_
  refine va_iast hx hb hK hP hD hS 1 0 rfl rfl (vp_in_lit (n := 146) rfl (by decide) (by decide)) dX8_init_899 (fun H locs hP hD hS => ?_)
  have eA : upd (sp_tabn 146) (146 : Int32).toNatClampNeg 34 = sp_tabn 147 := sp_tabn_s (i := 146) (by decide) (by decide)
  rw [eA] at hP hD
  have hP : va_P (dC, dI) vwCl [(m0, .inr (7, [.int 0, .null, .int 0, .int 0, .int 0, .int 0, .null, .null, .int 0, .int 0, .int 0, .int 0, .int 0, .null, .int 0, .int 0, .int 0, .int 0, .int 0, .int 0, .int 0, .null, .null, .int 0, .int 0, .int 0, .int 0, .long 0, .long 0, .int 0, .int 0])), (q_8, .inl (cI, 188, .inl (sp_tabn 147)))] H := hP
  have hD : va_D A [(m0, .inr (7, [.int 0, .null, .int 0, .int 0, .int 0, .int 0, .null, .null, .int 0, .int 0, .int 0, .int 0, .int 0, .null, .int 0, .int 0, .int 0, .int 0, .int 0, .int 0, .int 0, .null, .null, .int 0, .int 0, .int 0, .int 0, .long 0, .long 0, .int 0, .int 0])), (q_8, .inl (cI, 188, .inl (sp_tabn 147)))] := hD
  refine lv_dup hx hb dX8_init_900 rfl ?_
  refine lv_sipush (v := 147) hx hb dX8_init_901 (by decide) ?_
  refine lv_iconst (v := 0) hx hb dX8_init_904 (by decide) ?_
  refine va_iast hx hb hK hP hD hS 1 0 rfl rfl (vp_in_lit (n := 147) rfl (by decide) (by decide)) dX8_init_905 (fun H locs hP hD hS => ?_)
  have eA : upd (sp_tabn 147) (147 : Int32).toNatClampNeg 0 = sp_tabn 148 := sp_tabn_s (i := 147) (by decide) (by decide)
  rw [eA] at hP hD
  have hP : va_P (dC, dI) vwCl [(m0, .inr (7, [.int 0, .null, .int 0, .int 0, .int 0, .int 0, .null, .null, .int 0, .int 0, .int 0, .int 0, .int 0, .null, .int 0, .int 0, .int 0, .int 0, .int 0, .int 0, .int 0, .null, .null, .int 0, .int 0, .int 0, .int 0, .long 0, .long 0, .int 0, .int 0])), (q_8, .inl (cI, 188, .inl (sp_tabn 148)))] H := hP
  have hD : va_D A [(m0, .inr (7, [.int 0, .null, .int 0, .int 0, .int 0, .int 0, .null, .null, .int 0, .int 0, .int 0, .int 0, .int 0, .null, .int 0, .int 0, .int 0, .int 0, .int 0, .int 0, .int 0, .null, .null, .int 0, .int 0, .int 0, .int 0, .long 0, .long 0, .int 0, .int 0])), (q_8, .inl (cI, 188, .inl (sp_tabn 148)))] := hD
  refine lv_dup hx hb dX8_init_906 rfl ?_
  refine lv_sipush (v := 148) hx hb dX8_init_907 (by decide) ?_
  refine lv_sipush (v := 321) hx hb dX8_init_910 (by decide) ?_
  refine va_iast hx hb hK hP hD hS 1 0 rfl rfl (vp_in_lit (n := 148) rfl (by decide) (by decide)) dX8_init_913 (fun H locs hP hD hS => ?_)
  have eA : upd (sp_tabn 148) (148 : Int32).toNatClampNeg 321 = sp_tabn 149 := sp_tabn_s (i := 148) (by decide) (by decide)
  rw [eA] at hP hD
  have hP : va_P (dC, dI) vwCl [(m0, .inr (7, [.int 0, .null, .int 0, .int 0, .int 0, .int 0, .null, .null, .int 0, .int 0, .int 0, .int 0, .int 0, .null, .int 0, .int 0, .int 0, .int 0, .int 0, .int 0, .int 0, .null, .null, .int 0, .int 0, .int 0, .int 0, .long 0, .long 0, .int 0, .int 0])), (q_8, .inl (cI, 188, .inl (sp_tabn 149)))] H := hP
  have hD : va_D A [(m0, .inr (7, [.int 0, .null, .int 0, .int 0, .int 0, .int 0, .null, .null, .int 0, .int 0, .int 0, .int 0, .int 0, .null, .int 0, .int 0, .int 0, .int 0, .int 0, .int 0, .int 0, .null, .null, .int 0, .int 0, .int 0, .int 0, .long 0, .long 0, .int 0, .int 0])), (q_8, .inl (cI, 188, .inl (sp_tabn 149)))] := hD
  refine lv_dup hx hb dX8_init_914 rfl ?_
  refine lv_sipush (v := 149) hx hb dX8_init_915 (by decide) ?_
  refine lv_bipush (v := 38) hx hb dX8_init_918 (by decide) ?_
  refine va_iast hx hb hK hP hD hS 1 0 rfl rfl (vp_in_lit (n := 149) rfl (by decide) (by decide)) dX8_init_920 (fun H locs hP hD hS => ?_)
  have eA : upd (sp_tabn 149) (149 : Int32).toNatClampNeg 38 = sp_tabn 150 := sp_tabn_s (i := 149) (by decide) (by decide)
  rw [eA] at hP hD
  have hP : va_P (dC, dI) vwCl [(m0, .inr (7, [.int 0, .null, .int 0, .int 0, .int 0, .int 0, .null, .null, .int 0, .int 0, .int 0, .int 0, .int 0, .null, .int 0, .int 0, .int 0, .int 0, .int 0, .int 0, .int 0, .null, .null, .int 0, .int 0, .int 0, .int 0, .long 0, .long 0, .int 0, .int 0])), (q_8, .inl (cI, 188, .inl (sp_tabn 150)))] H := hP
  have hD : va_D A [(m0, .inr (7, [.int 0, .null, .int 0, .int 0, .int 0, .int 0, .null, .null, .int 0, .int 0, .int 0, .int 0, .int 0, .null, .int 0, .int 0, .int 0, .int 0, .int 0, .int 0, .int 0, .null, .null, .int 0, .int 0, .int 0, .int 0, .long 0, .long 0, .int 0, .int 0])), (q_8, .inl (cI, 188, .inl (sp_tabn 150)))] := hD
  refine lv_dup hx hb dX8_init_921 rfl ?_
  refine lv_sipush (v := 150) hx hb dX8_init_922 (by decide) ?_
  refine lv_bipush (v := 35) hx hb dX8_init_925 (by decide) ?_
  refine va_iast hx hb hK hP hD hS 1 0 rfl rfl (vp_in_lit (n := 150) rfl (by decide) (by decide)) dX8_init_927 (fun H locs hP hD hS => ?_)
  have eA : upd (sp_tabn 150) (150 : Int32).toNatClampNeg 35 = sp_tabn 151 := sp_tabn_s (i := 150) (by decide) (by decide)
  rw [eA] at hP hD
  have hP : va_P (dC, dI) vwCl [(m0, .inr (7, [.int 0, .null, .int 0, .int 0, .int 0, .int 0, .null, .null, .int 0, .int 0, .int 0, .int 0, .int 0, .null, .int 0, .int 0, .int 0, .int 0, .int 0, .int 0, .int 0, .null, .null, .int 0, .int 0, .int 0, .int 0, .long 0, .long 0, .int 0, .int 0])), (q_8, .inl (cI, 188, .inl (sp_tabn 151)))] H := hP
  have hD : va_D A [(m0, .inr (7, [.int 0, .null, .int 0, .int 0, .int 0, .int 0, .null, .null, .int 0, .int 0, .int 0, .int 0, .int 0, .null, .int 0, .int 0, .int 0, .int 0, .int 0, .int 0, .int 0, .null, .null, .int 0, .int 0, .int 0, .int 0, .long 0, .long 0, .int 0, .int 0])), (q_8, .inl (cI, 188, .inl (sp_tabn 151)))] := hD
  refine lv_dup hx hb dX8_init_928 rfl ?_
  refine lv_sipush (v := 151) hx hb dX8_init_929 (by decide) ?_
  refine lv_iconst (v := 0) hx hb dX8_init_932 (by decide) ?_
  refine va_iast hx hb hK hP hD hS 1 0 rfl rfl (vp_in_lit (n := 151) rfl (by decide) (by decide)) dX8_init_933 (fun H locs hP hD hS => ?_)
  have eA : upd (sp_tabn 151) (151 : Int32).toNatClampNeg 0 = sp_tabn 152 := sp_tabn_s (i := 151) (by decide) (by decide)
  rw [eA] at hP hD
  have hP : va_P (dC, dI) vwCl [(m0, .inr (7, [.int 0, .null, .int 0, .int 0, .int 0, .int 0, .null, .null, .int 0, .int 0, .int 0, .int 0, .int 0, .null, .int 0, .int 0, .int 0, .int 0, .int 0, .int 0, .int 0, .null, .null, .int 0, .int 0, .int 0, .int 0, .long 0, .long 0, .int 0, .int 0])), (q_8, .inl (cI, 188, .inl (sp_tabn 152)))] H := hP
  have hD : va_D A [(m0, .inr (7, [.int 0, .null, .int 0, .int 0, .int 0, .int 0, .null, .null, .int 0, .int 0, .int 0, .int 0, .int 0, .null, .int 0, .int 0, .int 0, .int 0, .int 0, .int 0, .int 0, .null, .null, .int 0, .int 0, .int 0, .int 0, .long 0, .long 0, .int 0, .int 0])), (q_8, .inl (cI, 188, .inl (sp_tabn 152)))] := hD
  refine lv_dup hx hb dX8_init_934 rfl ?_
  refine lv_sipush (v := 152) hx hb dX8_init_935 (by decide) ?_
  refine lv_sipush (v := 273) hx hb dX8_init_938 (by decide) ?_
  refine va_iast hx hb hK hP hD hS 1 0 rfl rfl (vp_in_lit (n := 152) rfl (by decide) (by decide)) dX8_init_941 (fun H locs hP hD hS => ?_)
  have eA : upd (sp_tabn 152) (152 : Int32).toNatClampNeg 273 = sp_tabn 153 := sp_tabn_s (i := 152) (by decide) (by decide)
  rw [eA] at hP hD
  have hP : va_P (dC, dI) vwCl [(m0, .inr (7, [.int 0, .null, .int 0, .int 0, .int 0, .int 0, .null, .null, .int 0, .int 0, .int 0, .int 0, .int 0, .null, .int 0, .int 0, .int 0, .int 0, .int 0, .int 0, .int 0, .null, .null, .int 0, .int 0, .int 0, .int 0, .long 0, .long 0, .int 0, .int 0])), (q_8, .inl (cI, 188, .inl (sp_tabn 153)))] H := hP
  have hD : va_D A [(m0, .inr (7, [.int 0, .null, .int 0, .int 0, .int 0, .int 0, .null, .null, .int 0, .int 0, .int 0, .int 0, .int 0, .null, .int 0, .int 0, .int 0, .int 0, .int 0, .int 0, .int 0, .null, .null, .int 0, .int 0, .int 0, .int 0, .long 0, .long 0, .int 0, .int 0])), (q_8, .inl (cI, 188, .inl (sp_tabn 153)))] := hD
  refine lv_dup hx hb dX8_init_942 rfl ?_
  refine lv_sipush (v := 153) hx hb dX8_init_943 (by decide) ?_
  refine lv_bipush (v := 39) hx hb dX8_init_946 (by decide) ?_
  refine va_iast hx hb hK hP hD hS 1 0 rfl rfl (vp_in_lit (n := 153) rfl (by decide) (by decide)) dX8_init_948 (fun H locs hP hD hS => ?_)
  have eA : upd (sp_tabn 153) (153 : Int32).toNatClampNeg 39 = sp_tabn 154 := sp_tabn_s (i := 153) (by decide) (by decide)
  rw [eA] at hP hD
  have hP : va_P (dC, dI) vwCl [(m0, .inr (7, [.int 0, .null, .int 0, .int 0, .int 0, .int 0, .null, .null, .int 0, .int 0, .int 0, .int 0, .int 0, .null, .int 0, .int 0, .int 0, .int 0, .int 0, .int 0, .int 0, .null, .null, .int 0, .int 0, .int 0, .int 0, .long 0, .long 0, .int 0, .int 0])), (q_8, .inl (cI, 188, .inl (sp_tabn 154)))] H := hP
  have hD : va_D A [(m0, .inr (7, [.int 0, .null, .int 0, .int 0, .int 0, .int 0, .null, .null, .int 0, .int 0, .int 0, .int 0, .int 0, .null, .int 0, .int 0, .int 0, .int 0, .int 0, .int 0, .int 0, .null, .null, .int 0, .int 0, .int 0, .int 0, .long 0, .long 0, .int 0, .int 0])), (q_8, .inl (cI, 188, .inl (sp_tabn 154)))] := hD
  refine lv_dup hx hb dX8_init_949 rfl ?_
  refine lv_sipush (v := 154) hx hb dX8_init_950 (by decide) ?_
  refine lv_bipush (v := 36) hx hb dX8_init_953 (by decide) ?_
  refine va_iast hx hb hK hP hD hS 1 0 rfl rfl (vp_in_lit (n := 154) rfl (by decide) (by decide)) dX8_init_955 (fun H locs hP hD hS => ?_)
  have eA : upd (sp_tabn 154) (154 : Int32).toNatClampNeg 36 = sp_tabn 155 := sp_tabn_s (i := 154) (by decide) (by decide)
  rw [eA] at hP hD
  have hP : va_P (dC, dI) vwCl [(m0, .inr (7, [.int 0, .null, .int 0, .int 0, .int 0, .int 0, .null, .null, .int 0, .int 0, .int 0, .int 0, .int 0, .null, .int 0, .int 0, .int 0, .int 0, .int 0, .int 0, .int 0, .null, .null, .int 0, .int 0, .int 0, .int 0, .long 0, .long 0, .int 0, .int 0])), (q_8, .inl (cI, 188, .inl (sp_tabn 155)))] H := hP
  have hD : va_D A [(m0, .inr (7, [.int 0, .null, .int 0, .int 0, .int 0, .int 0, .null, .null, .int 0, .int 0, .int 0, .int 0, .int 0, .null, .int 0, .int 0, .int 0, .int 0, .int 0, .int 0, .int 0, .null, .null, .int 0, .int 0, .int 0, .int 0, .long 0, .long 0, .int 0, .int 0])), (q_8, .inl (cI, 188, .inl (sp_tabn 155)))] := hD
  refine lv_dup hx hb dX8_init_956 rfl ?_
  refine lv_sipush (v := 155) hx hb dX8_init_957 (by decide) ?_
  refine lv_iconst (v := 0) hx hb dX8_init_960 (by decide) ?_
  refine va_iast hx hb hK hP hD hS 1 0 rfl rfl (vp_in_lit (n := 155) rfl (by decide) (by decide)) dX8_init_961 (fun H locs hP hD hS => ?_)
  have eA : upd (sp_tabn 155) (155 : Int32).toNatClampNeg 0 = sp_tabn 156 := sp_tabn_s (i := 155) (by decide) (by decide)
  rw [eA] at hP hD
  have hP : va_P (dC, dI) vwCl [(m0, .inr (7, [.int 0, .null, .int 0, .int 0, .int 0, .int 0, .null, .null, .int 0, .int 0, .int 0, .int 0, .int 0, .null, .int 0, .int 0, .int 0, .int 0, .int 0, .int 0, .int 0, .null, .null, .int 0, .int 0, .int 0, .int 0, .long 0, .long 0, .int 0, .int 0])), (q_8, .inl (cI, 188, .inl (sp_tabn 156)))] H := hP
  have hD : va_D A [(m0, .inr (7, [.int 0, .null, .int 0, .int 0, .int 0, .int 0, .null, .null, .int 0, .int 0, .int 0, .int 0, .int 0, .null, .int 0, .int 0, .int 0, .int 0, .int 0, .int 0, .int 0, .null, .null, .int 0, .int 0, .int 0, .int 0, .long 0, .long 0, .int 0, .int 0])), (q_8, .inl (cI, 188, .inl (sp_tabn 156)))] := hD
  refine lv_dup hx hb dX8_init_962 rfl ?_
  refine lv_sipush (v := 156) hx hb dX8_init_963 (by decide) ?_
  refine lv_sipush (v := 133) hx hb dX8_init_966 (by decide) ?_
  refine va_iast hx hb hK hP hD hS 1 0 rfl rfl (vp_in_lit (n := 156) rfl (by decide) (by decide)) dX8_init_969 (fun H locs hP hD hS => ?_)
  have eA : upd (sp_tabn 156) (156 : Int32).toNatClampNeg 133 = sp_tabn 157 := sp_tabn_s (i := 156) (by decide) (by decide)
  rw [eA] at hP hD
  have hP : va_P (dC, dI) vwCl [(m0, .inr (7, [.int 0, .null, .int 0, .int 0, .int 0, .int 0, .null, .null, .int 0, .int 0, .int 0, .int 0, .int 0, .null, .int 0, .int 0, .int 0, .int 0, .int 0, .int 0, .int 0, .null, .null, .int 0, .int 0, .int 0, .int 0, .long 0, .long 0, .int 0, .int 0])), (q_8, .inl (cI, 188, .inl (sp_tabn 157)))] H := hP
  have hD : va_D A [(m0, .inr (7, [.int 0, .null, .int 0, .int 0, .int 0, .int 0, .null, .null, .int 0, .int 0, .int 0, .int 0, .int 0, .null, .int 0, .int 0, .int 0, .int 0, .int 0, .int 0, .int 0, .null, .null, .int 0, .int 0, .int 0, .int 0, .long 0, .long 0, .int 0, .int 0])), (q_8, .inl (cI, 188, .inl (sp_tabn 157)))] := hD
  refine lv_dup hx hb dX8_init_970 rfl ?_
  refine lv_sipush (v := 157) hx hb dX8_init_971 (by decide) ?_
  refine lv_bipush (v := 40) hx hb dX8_init_974 (by decide) ?_
  refine va_iast hx hb hK hP hD hS 1 0 rfl rfl (vp_in_lit (n := 157) rfl (by decide) (by decide)) dX8_init_976 (fun H locs hP hD hS => ?_)
  have eA : upd (sp_tabn 157) (157 : Int32).toNatClampNeg 40 = sp_tabn 158 := sp_tabn_s (i := 157) (by decide) (by decide)
  rw [eA] at hP hD
  have hP : va_P (dC, dI) vwCl [(m0, .inr (7, [.int 0, .null, .int 0, .int 0, .int 0, .int 0, .null, .null, .int 0, .int 0, .int 0, .int 0, .int 0, .null, .int 0, .int 0, .int 0, .int 0, .int 0, .int 0, .int 0, .null, .null, .int 0, .int 0, .int 0, .int 0, .long 0, .long 0, .int 0, .int 0])), (q_8, .inl (cI, 188, .inl (sp_tabn 158)))] H := hP
  have hD : va_D A [(m0, .inr (7, [.int 0, .null, .int 0, .int 0, .int 0, .int 0, .null, .null, .int 0, .int 0, .int 0, .int 0, .int 0, .null, .int 0, .int 0, .int 0, .int 0, .int 0, .int 0, .int 0, .null, .null, .int 0, .int 0, .int 0, .int 0, .long 0, .long 0, .int 0, .int 0])), (q_8, .inl (cI, 188, .inl (sp_tabn 158)))] := hD
  refine lv_dup hx hb dX8_init_977 rfl ?_
  refine lv_sipush (v := 158) hx hb dX8_init_978 (by decide) ?_
  refine lv_bipush (v := 37) hx hb dX8_init_981 (by decide) ?_
  refine va_iast hx hb hK hP hD hS 1 0 rfl rfl (vp_in_lit (n := 158) rfl (by decide) (by decide)) dX8_init_983 (fun H locs hP hD hS => ?_)
  have eA : upd (sp_tabn 158) (158 : Int32).toNatClampNeg 37 = sp_tabn 159 := sp_tabn_s (i := 158) (by decide) (by decide)
  rw [eA] at hP hD
  have hP : va_P (dC, dI) vwCl [(m0, .inr (7, [.int 0, .null, .int 0, .int 0, .int 0, .int 0, .null, .null, .int 0, .int 0, .int 0, .int 0, .int 0, .null, .int 0, .int 0, .int 0, .int 0, .int 0, .int 0, .int 0, .null, .null, .int 0, .int 0, .int 0, .int 0, .long 0, .long 0, .int 0, .int 0])), (q_8, .inl (cI, 188, .inl (sp_tabn 159)))] H := hP
  have hD : va_D A [(m0, .inr (7, [.int 0, .null, .int 0, .int 0, .int 0, .int 0, .null, .null, .int 0, .int 0, .int 0, .int 0, .int 0, .null, .int 0, .int 0, .int 0, .int 0, .int 0, .int 0, .int 0, .null, .null, .int 0, .int 0, .int 0, .int 0, .long 0, .long 0, .int 0, .int 0])), (q_8, .inl (cI, 188, .inl (sp_tabn 159)))] := hD
  refine lv_dup hx hb dX8_init_984 rfl ?_
  refine lv_sipush (v := 159) hx hb dX8_init_985 (by decide) ?_
  refine lv_iconst (v := 0) hx hb dX8_init_988 (by decide) ?_
  refine va_iast hx hb hK hP hD hS 1 0 rfl rfl (vp_in_lit (n := 159) rfl (by decide) (by decide)) dX8_init_989 (fun H locs hP hD hS => ?_)
  have eA : upd (sp_tabn 159) (159 : Int32).toNatClampNeg 0 = sp_tabn 160 := sp_tabn_s (i := 159) (by decide) (by decide)
  rw [eA] at hP hD
  have hP : va_P (dC, dI) vwCl [(m0, .inr (7, [.int 0, .null, .int 0, .int 0, .int 0, .int 0, .null, .null, .int 0, .int 0, .int 0, .int 0, .int 0, .null, .int 0, .int 0, .int 0, .int 0, .int 0, .int 0, .int 0, .null, .null, .int 0, .int 0, .int 0, .int 0, .long 0, .long 0, .int 0, .int 0])), (q_8, .inl (cI, 188, .inl (sp_tabn 160)))] H := hP
  have hD : va_D A [(m0, .inr (7, [.int 0, .null, .int 0, .int 0, .int 0, .int 0, .null, .null, .int 0, .int 0, .int 0, .int 0, .int 0, .null, .int 0, .int 0, .int 0, .int 0, .int 0, .int 0, .int 0, .null, .null, .int 0, .int 0, .int 0, .int 0, .long 0, .long 0, .int 0, .int 0])), (q_8, .inl (cI, 188, .inl (sp_tabn 160)))] := hD
  refine lv_dup hx hb dX8_init_990 rfl ?_
  refine lv_sipush (v := 160) hx hb dX8_init_991 (by decide) ?_
  refine lv_bipush (v := 73) hx hb dX8_init_994 (by decide) ?_
  refine va_iast hx hb hK hP hD hS 1 0 rfl rfl (vp_in_lit (n := 160) rfl (by decide) (by decide)) dX8_init_996 (fun H locs hP hD hS => ?_)
  have eA : upd (sp_tabn 160) (160 : Int32).toNatClampNeg 73 = sp_tabn 161 := sp_tabn_s (i := 160) (by decide) (by decide)
  rw [eA] at hP hD
  have hP : va_P (dC, dI) vwCl [(m0, .inr (7, [.int 0, .null, .int 0, .int 0, .int 0, .int 0, .null, .null, .int 0, .int 0, .int 0, .int 0, .int 0, .null, .int 0, .int 0, .int 0, .int 0, .int 0, .int 0, .int 0, .null, .null, .int 0, .int 0, .int 0, .int 0, .long 0, .long 0, .int 0, .int 0])), (q_8, .inl (cI, 188, .inl (sp_tabn 161)))] H := hP
  have hD : va_D A [(m0, .inr (7, [.int 0, .null, .int 0, .int 0, .int 0, .int 0, .null, .null, .int 0, .int 0, .int 0, .int 0, .int 0, .null, .int 0, .int 0, .int 0, .int 0, .int 0, .int 0, .int 0, .null, .null, .int 0, .int 0, .int 0, .int 0, .long 0, .long 0, .int 0, .int 0])), (q_8, .inl (cI, 188, .inl (sp_tabn 161)))] := hD
  refine lv_dup hx hb dX8_init_997 rfl ?_
  refine lv_sipush (v := 161) hx hb dX8_init_998 (by decide) ?_
  refine lv_bipush (v := 41) hx hb dX8_init_1001 (by decide) ?_
  refine va_iast hx hb hK hP hD hS 1 0 rfl rfl (vp_in_lit (n := 161) rfl (by decide) (by decide)) dX8_init_1003 (fun H locs hP hD hS => ?_)
  have eA : upd (sp_tabn 161) (161 : Int32).toNatClampNeg 41 = sp_tabn 162 := sp_tabn_s (i := 161) (by decide) (by decide)
  rw [eA] at hP hD
  have hP : va_P (dC, dI) vwCl [(m0, .inr (7, [.int 0, .null, .int 0, .int 0, .int 0, .int 0, .null, .null, .int 0, .int 0, .int 0, .int 0, .int 0, .null, .int 0, .int 0, .int 0, .int 0, .int 0, .int 0, .int 0, .null, .null, .int 0, .int 0, .int 0, .int 0, .long 0, .long 0, .int 0, .int 0])), (q_8, .inl (cI, 188, .inl (sp_tabn 162)))] H := hP
  have hD : va_D A [(m0, .inr (7, [.int 0, .null, .int 0, .int 0, .int 0, .int 0, .null, .null, .int 0, .int 0, .int 0, .int 0, .int 0, .null, .int 0, .int 0, .int 0, .int 0, .int 0, .int 0, .int 0, .null, .null, .int 0, .int 0, .int 0, .int 0, .long 0, .long 0, .int 0, .int 0])), (q_8, .inl (cI, 188, .inl (sp_tabn 162)))] := hD
  refine lv_dup hx hb dX8_init_1004 rfl ?_
  refine lv_sipush (v := 162) hx hb dX8_init_1005 (by decide) ?_
  refine lv_bipush (v := 38) hx hb dX8_init_1008 (by decide) ?_
  refine va_iast hx hb hK hP hD hS 1 0 rfl rfl (vp_in_lit (n := 162) rfl (by decide) (by decide)) dX8_init_1010 (fun H locs hP hD hS => ?_)
  have eA : upd (sp_tabn 162) (162 : Int32).toNatClampNeg 38 = sp_tabn 163 := sp_tabn_s (i := 162) (by decide) (by decide)
  rw [eA] at hP hD
  have hP : va_P (dC, dI) vwCl [(m0, .inr (7, [.int 0, .null, .int 0, .int 0, .int 0, .int 0, .null, .null, .int 0, .int 0, .int 0, .int 0, .int 0, .null, .int 0, .int 0, .int 0, .int 0, .int 0, .int 0, .int 0, .null, .null, .int 0, .int 0, .int 0, .int 0, .long 0, .long 0, .int 0, .int 0])), (q_8, .inl (cI, 188, .inl (sp_tabn 163)))] H := hP
  have hD : va_D A [(m0, .inr (7, [.int 0, .null, .int 0, .int 0, .int 0, .int 0, .null, .null, .int 0, .int 0, .int 0, .int 0, .int 0, .null, .int 0, .int 0, .int 0, .int 0, .int 0, .int 0, .int 0, .null, .null, .int 0, .int 0, .int 0, .int 0, .long 0, .long 0, .int 0, .int 0])), (q_8, .inl (cI, 188, .inl (sp_tabn 163)))] := hD
  refine lv_dup hx hb dX8_init_1011 rfl ?_
  refine lv_sipush (v := 163) hx hb dX8_init_1012 (by decide) ?_
  refine lv_iconst (v := 0) hx hb dX8_init_1015 (by decide) ?_
  refine va_iast hx hb hK hP hD hS 1 0 rfl rfl (vp_in_lit (n := 163) rfl (by decide) (by decide)) dX8_init_1016 (fun H locs hP hD hS => ?_)
  have eA : upd (sp_tabn 163) (163 : Int32).toNatClampNeg 0 = sp_tabn 164 := sp_tabn_s (i := 163) (by decide) (by decide)
  rw [eA] at hP hD
  have hP : va_P (dC, dI) vwCl [(m0, .inr (7, [.int 0, .null, .int 0, .int 0, .int 0, .int 0, .null, .null, .int 0, .int 0, .int 0, .int 0, .int 0, .null, .int 0, .int 0, .int 0, .int 0, .int 0, .int 0, .int 0, .null, .null, .int 0, .int 0, .int 0, .int 0, .long 0, .long 0, .int 0, .int 0])), (q_8, .inl (cI, 188, .inl (sp_tabn 164)))] H := hP
  have hD : va_D A [(m0, .inr (7, [.int 0, .null, .int 0, .int 0, .int 0, .int 0, .null, .null, .int 0, .int 0, .int 0, .int 0, .int 0, .null, .int 0, .int 0, .int 0, .int 0, .int 0, .int 0, .int 0, .null, .null, .int 0, .int 0, .int 0, .int 0, .long 0, .long 0, .int 0, .int 0])), (q_8, .inl (cI, 188, .inl (sp_tabn 164)))] := hD
  refine lv_dup hx hb dX8_init_1017 rfl ?_
  refine lv_sipush (v := 164) hx hb dX8_init_1018 (by decide) ?_
  refine lv_bipush (v := 37) hx hb dX8_init_1021 (by decide) ?_
  refine va_iast hx hb hK hP hD hS 1 0 rfl rfl (vp_in_lit (n := 164) rfl (by decide) (by decide)) dX8_init_1023 (fun H locs hP hD hS => ?_)
  have eA : upd (sp_tabn 164) (164 : Int32).toNatClampNeg 37 = sp_tabn 165 := sp_tabn_s (i := 164) (by decide) (by decide)
  rw [eA] at hP hD
  have hP : va_P (dC, dI) vwCl [(m0, .inr (7, [.int 0, .null, .int 0, .int 0, .int 0, .int 0, .null, .null, .int 0, .int 0, .int 0, .int 0, .int 0, .null, .int 0, .int 0, .int 0, .int 0, .int 0, .int 0, .int 0, .null, .null, .int 0, .int 0, .int 0, .int 0, .long 0, .long 0, .int 0, .int 0])), (q_8, .inl (cI, 188, .inl (sp_tabn 165)))] H := hP
  have hD : va_D A [(m0, .inr (7, [.int 0, .null, .int 0, .int 0, .int 0, .int 0, .null, .null, .int 0, .int 0, .int 0, .int 0, .int 0, .null, .int 0, .int 0, .int 0, .int 0, .int 0, .int 0, .int 0, .null, .null, .int 0, .int 0, .int 0, .int 0, .long 0, .long 0, .int 0, .int 0])), (q_8, .inl (cI, 188, .inl (sp_tabn 165)))] := hD
  refine lv_dup hx hb dX8_init_1024 rfl ?_
  refine lv_sipush (v := 165) hx hb dX8_init_1025 (by decide) ?_
  refine lv_bipush (v := 42) hx hb dX8_init_1028 (by decide) ?_
  refine va_iast hx hb hK hP hD hS 1 0 rfl rfl (vp_in_lit (n := 165) rfl (by decide) (by decide)) dX8_init_1030 (fun H locs hP hD hS => ?_)
  have eA : upd (sp_tabn 165) (165 : Int32).toNatClampNeg 42 = sp_tabn 166 := sp_tabn_s (i := 165) (by decide) (by decide)
  rw [eA] at hP hD
  have hP : va_P (dC, dI) vwCl [(m0, .inr (7, [.int 0, .null, .int 0, .int 0, .int 0, .int 0, .null, .null, .int 0, .int 0, .int 0, .int 0, .int 0, .null, .int 0, .int 0, .int 0, .int 0, .int 0, .int 0, .int 0, .null, .null, .int 0, .int 0, .int 0, .int 0, .long 0, .long 0, .int 0, .int 0])), (q_8, .inl (cI, 188, .inl (sp_tabn 166)))] H := hP
  have hD : va_D A [(m0, .inr (7, [.int 0, .null, .int 0, .int 0, .int 0, .int 0, .null, .null, .int 0, .int 0, .int 0, .int 0, .int 0, .null, .int 0, .int 0, .int 0, .int 0, .int 0, .int 0, .int 0, .null, .null, .int 0, .int 0, .int 0, .int 0, .long 0, .long 0, .int 0, .int 0])), (q_8, .inl (cI, 188, .inl (sp_tabn 166)))] := hD
  refine lv_dup hx hb dX8_init_1031 rfl ?_
  refine lv_sipush (v := 166) hx hb dX8_init_1032 (by decide) ?_
  refine lv_bipush (v := 39) hx hb dX8_init_1035 (by decide) ?_
  refine va_iast hx hb hK hP hD hS 1 0 rfl rfl (vp_in_lit (n := 166) rfl (by decide) (by decide)) dX8_init_1037 (fun H locs hP hD hS => ?_)
  have eA : upd (sp_tabn 166) (166 : Int32).toNatClampNeg 39 = sp_tabn 167 := sp_tabn_s (i := 166) (by decide) (by decide)
  rw [eA] at hP hD
  have hP : va_P (dC, dI) vwCl [(m0, .inr (7, [.int 0, .null, .int 0, .int 0, .int 0, .int 0, .null, .null, .int 0, .int 0, .int 0, .int 0, .int 0, .null, .int 0, .int 0, .int 0, .int 0, .int 0, .int 0, .int 0, .null, .null, .int 0, .int 0, .int 0, .int 0, .long 0, .long 0, .int 0, .int 0])), (q_8, .inl (cI, 188, .inl (sp_tabn 167)))] H := hP
  have hD : va_D A [(m0, .inr (7, [.int 0, .null, .int 0, .int 0, .int 0, .int 0, .null, .null, .int 0, .int 0, .int 0, .int 0, .int 0, .null, .int 0, .int 0, .int 0, .int 0, .int 0, .int 0, .int 0, .null, .null, .int 0, .int 0, .int 0, .int 0, .long 0, .long 0, .int 0, .int 0])), (q_8, .inl (cI, 188, .inl (sp_tabn 167)))] := hD
  refine lv_dup hx hb dX8_init_1038 rfl ?_
  refine lv_sipush (v := 167) hx hb dX8_init_1039 (by decide) ?_
  refine lv_iconst (v := 0) hx hb dX8_init_1042 (by decide) ?_
  refine va_iast hx hb hK hP hD hS 1 0 rfl rfl (vp_in_lit (n := 167) rfl (by decide) (by decide)) dX8_init_1043 (fun H locs hP hD hS => ?_)
  have eA : upd (sp_tabn 167) (167 : Int32).toNatClampNeg 0 = sp_tabn 168 := sp_tabn_s (i := 167) (by decide) (by decide)
  rw [eA] at hP hD
  have hP : va_P (dC, dI) vwCl [(m0, .inr (7, [.int 0, .null, .int 0, .int 0, .int 0, .int 0, .null, .null, .int 0, .int 0, .int 0, .int 0, .int 0, .null, .int 0, .int 0, .int 0, .int 0, .int 0, .int 0, .int 0, .null, .null, .int 0, .int 0, .int 0, .int 0, .long 0, .long 0, .int 0, .int 0])), (q_8, .inl (cI, 188, .inl (sp_tabn 168)))] H := hP
  have hD : va_D A [(m0, .inr (7, [.int 0, .null, .int 0, .int 0, .int 0, .int 0, .null, .null, .int 0, .int 0, .int 0, .int 0, .int 0, .null, .int 0, .int 0, .int 0, .int 0, .int 0, .int 0, .int 0, .null, .null, .int 0, .int 0, .int 0, .int 0, .long 0, .long 0, .int 0, .int 0])), (q_8, .inl (cI, 188, .inl (sp_tabn 168)))] := hD
  refine lv_dup hx hb dX8_init_1044 rfl ?_
  refine lv_sipush (v := 168) hx hb dX8_init_1045 (by decide) ?_
  refine lv_bipush (v := 21) hx hb dX8_init_1048 (by decide) ?_
  refine va_iast hx hb hK hP hD hS 1 0 rfl rfl (vp_in_lit (n := 168) rfl (by decide) (by decide)) dX8_init_1050 (fun H locs hP hD hS => ?_)
  have eA : upd (sp_tabn 168) (168 : Int32).toNatClampNeg 21 = sp_tabn 169 := sp_tabn_s (i := 168) (by decide) (by decide)
  rw [eA] at hP hD
  have hP : va_P (dC, dI) vwCl [(m0, .inr (7, [.int 0, .null, .int 0, .int 0, .int 0, .int 0, .null, .null, .int 0, .int 0, .int 0, .int 0, .int 0, .null, .int 0, .int 0, .int 0, .int 0, .int 0, .int 0, .int 0, .null, .null, .int 0, .int 0, .int 0, .int 0, .long 0, .long 0, .int 0, .int 0])), (q_8, .inl (cI, 188, .inl (sp_tabn 169)))] H := hP
  have hD : va_D A [(m0, .inr (7, [.int 0, .null, .int 0, .int 0, .int 0, .int 0, .null, .null, .int 0, .int 0, .int 0, .int 0, .int 0, .null, .int 0, .int 0, .int 0, .int 0, .int 0, .int 0, .int 0, .null, .null, .int 0, .int 0, .int 0, .int 0, .long 0, .long 0, .int 0, .int 0])), (q_8, .inl (cI, 188, .inl (sp_tabn 169)))] := hD
  refine lv_dup hx hb dX8_init_1051 rfl ?_
  refine lv_sipush (v := 169) hx hb dX8_init_1052 (by decide) ?_
  refine lv_bipush (v := 43) hx hb dX8_init_1055 (by decide) ?_
  refine va_iast hx hb hK hP hD hS 1 0 rfl rfl (vp_in_lit (n := 169) rfl (by decide) (by decide)) dX8_init_1057 (fun H locs hP hD hS => ?_)
  have eA : upd (sp_tabn 169) (169 : Int32).toNatClampNeg 43 = sp_tabn 170 := sp_tabn_s (i := 169) (by decide) (by decide)
  rw [eA] at hP hD
  have hP : va_P (dC, dI) vwCl [(m0, .inr (7, [.int 0, .null, .int 0, .int 0, .int 0, .int 0, .null, .null, .int 0, .int 0, .int 0, .int 0, .int 0, .null, .int 0, .int 0, .int 0, .int 0, .int 0, .int 0, .int 0, .null, .null, .int 0, .int 0, .int 0, .int 0, .long 0, .long 0, .int 0, .int 0])), (q_8, .inl (cI, 188, .inl (sp_tabn 170)))] H := hP
  have hD : va_D A [(m0, .inr (7, [.int 0, .null, .int 0, .int 0, .int 0, .int 0, .null, .null, .int 0, .int 0, .int 0, .int 0, .int 0, .null, .int 0, .int 0, .int 0, .int 0, .int 0, .int 0, .int 0, .null, .null, .int 0, .int 0, .int 0, .int 0, .long 0, .long 0, .int 0, .int 0])), (q_8, .inl (cI, 188, .inl (sp_tabn 170)))] := hD
  refine lv_dup hx hb dX8_init_1058 rfl ?_
  refine lv_sipush (v := 170) hx hb dX8_init_1059 (by decide) ?_
  refine lv_bipush (v := 40) hx hb dX8_init_1062 (by decide) ?_
  refine va_iast hx hb hK hP hD hS 1 0 rfl rfl (vp_in_lit (n := 170) rfl (by decide) (by decide)) dX8_init_1064 (fun H locs hP hD hS => ?_)
  have eA : upd (sp_tabn 170) (170 : Int32).toNatClampNeg 40 = sp_tabn 171 := sp_tabn_s (i := 170) (by decide) (by decide)
  rw [eA] at hP hD
  have hP : va_P (dC, dI) vwCl [(m0, .inr (7, [.int 0, .null, .int 0, .int 0, .int 0, .int 0, .null, .null, .int 0, .int 0, .int 0, .int 0, .int 0, .null, .int 0, .int 0, .int 0, .int 0, .int 0, .int 0, .int 0, .null, .null, .int 0, .int 0, .int 0, .int 0, .long 0, .long 0, .int 0, .int 0])), (q_8, .inl (cI, 188, .inl (sp_tabn 171)))] H := hP
  have hD : va_D A [(m0, .inr (7, [.int 0, .null, .int 0, .int 0, .int 0, .int 0, .null, .null, .int 0, .int 0, .int 0, .int 0, .int 0, .null, .int 0, .int 0, .int 0, .int 0, .int 0, .int 0, .int 0, .null, .null, .int 0, .int 0, .int 0, .int 0, .long 0, .long 0, .int 0, .int 0])), (q_8, .inl (cI, 188, .inl (sp_tabn 171)))] := hD
  refine lv_dup hx hb dX8_init_1065 rfl ?_
  refine lv_sipush (v := 171) hx hb dX8_init_1066 (by decide) ?_
  refine lv_iconst (v := 0) hx hb dX8_init_1069 (by decide) ?_
  refine va_iast hx hb hK hP hD hS 1 0 rfl rfl (vp_in_lit (n := 171) rfl (by decide) (by decide)) dX8_init_1070 (fun H locs hP hD hS => ?_)
  have eA : upd (sp_tabn 171) (171 : Int32).toNatClampNeg 0 = sp_tabn 172 := sp_tabn_s (i := 171) (by decide) (by decide)
  rw [eA] at hP hD
  have hP : va_P (dC, dI) vwCl [(m0, .inr (7, [.int 0, .null, .int 0, .int 0, .int 0, .int 0, .null, .null, .int 0, .int 0, .int 0, .int 0, .int 0, .null, .int 0, .int 0, .int 0, .int 0, .int 0, .int 0, .int 0, .null, .null, .int 0, .int 0, .int 0, .int 0, .long 0, .long 0, .int 0, .int 0])), (q_8, .inl (cI, 188, .inl (sp_tabn 172)))] H := hP
  have hD : va_D A [(m0, .inr (7, [.int 0, .null, .int 0, .int 0, .int 0, .int 0, .null, .null, .int 0, .int 0, .int 0, .int 0, .int 0, .null, .int 0, .int 0, .int 0, .int 0, .int 0, .int 0, .int 0, .null, .null, .int 0, .int 0, .int 0, .int 0, .long 0, .long 0, .int 0, .int 0])), (q_8, .inl (cI, 188, .inl (sp_tabn 172)))] := hD
  refine lv_dup hx hb dX8_init_1071 rfl ?_
  refine lv_sipush (v := 172) hx hb dX8_init_1072 (by decide) ?_
  refine lv_bipush (v := 9) hx hb dX8_init_1075 (by decide) ?_
  refine va_iast hx hb hK hP hD hS 1 0 rfl rfl (vp_in_lit (n := 172) rfl (by decide) (by decide)) dX8_init_1077 (fun H locs hP hD hS => ?_)
  have eA : upd (sp_tabn 172) (172 : Int32).toNatClampNeg 9 = sp_tabn 173 := sp_tabn_s (i := 172) (by decide) (by decide)
  rw [eA] at hP hD
  have hP : va_P (dC, dI) vwCl [(m0, .inr (7, [.int 0, .null, .int 0, .int 0, .int 0, .int 0, .null, .null, .int 0, .int 0, .int 0, .int 0, .int 0, .null, .int 0, .int 0, .int 0, .int 0, .int 0, .int 0, .int 0, .null, .null, .int 0, .int 0, .int 0, .int 0, .long 0, .long 0, .int 0, .int 0])), (q_8, .inl (cI, 188, .inl (sp_tabn 173)))] H := hP
  have hD : va_D A [(m0, .inr (7, [.int 0, .null, .int 0, .int 0, .int 0, .int 0, .null, .null, .int 0, .int 0, .int 0, .int 0, .int 0, .null, .int 0, .int 0, .int 0, .int 0, .int 0, .int 0, .int 0, .null, .null, .int 0, .int 0, .int 0, .int 0, .long 0, .long 0, .int 0, .int 0])), (q_8, .inl (cI, 188, .inl (sp_tabn 173)))] := hD
  refine lv_dup hx hb dX8_init_1078 rfl ?_
  refine lv_sipush (v := 173) hx hb dX8_init_1079 (by decide) ?_
  refine lv_bipush (v := 44) hx hb dX8_init_1082 (by decide) ?_
  refine va_iast hx hb hK hP hD hS 1 0 rfl rfl (vp_in_lit (n := 173) rfl (by decide) (by decide)) dX8_init_1084 (fun H locs hP hD hS => ?_)
  have eA : upd (sp_tabn 173) (173 : Int32).toNatClampNeg 44 = sp_tabn 174 := sp_tabn_s (i := 173) (by decide) (by decide)
  rw [eA] at hP hD
  have hP : va_P (dC, dI) vwCl [(m0, .inr (7, [.int 0, .null, .int 0, .int 0, .int 0, .int 0, .null, .null, .int 0, .int 0, .int 0, .int 0, .int 0, .null, .int 0, .int 0, .int 0, .int 0, .int 0, .int 0, .int 0, .null, .null, .int 0, .int 0, .int 0, .int 0, .long 0, .long 0, .int 0, .int 0])), (q_8, .inl (cI, 188, .inl (sp_tabn 174)))] H := hP
  have hD : va_D A [(m0, .inr (7, [.int 0, .null, .int 0, .int 0, .int 0, .int 0, .null, .null, .int 0, .int 0, .int 0, .int 0, .int 0, .null, .int 0, .int 0, .int 0, .int 0, .int 0, .int 0, .int 0, .null, .null, .int 0, .int 0, .int 0, .int 0, .long 0, .long 0, .int 0, .int 0])), (q_8, .inl (cI, 188, .inl (sp_tabn 174)))] := hD
  refine lv_dup hx hb dX8_init_1085 rfl ?_
  refine lv_sipush (v := 174) hx hb dX8_init_1086 (by decide) ?_
  refine lv_bipush (v := 41) hx hb dX8_init_1089 (by decide) ?_
  refine va_iast hx hb hK hP hD hS 1 0 rfl rfl (vp_in_lit (n := 174) rfl (by decide) (by decide)) dX8_init_1091 (fun H locs hP hD hS => ?_)
  have eA : upd (sp_tabn 174) (174 : Int32).toNatClampNeg 41 = sp_tabn 175 := sp_tabn_s (i := 174) (by decide) (by decide)
  rw [eA] at hP hD
  have hP : va_P (dC, dI) vwCl [(m0, .inr (7, [.int 0, .null, .int 0, .int 0, .int 0, .int 0, .null, .null, .int 0, .int 0, .int 0, .int 0, .int 0, .null, .int 0, .int 0, .int 0, .int 0, .int 0, .int 0, .int 0, .null, .null, .int 0, .int 0, .int 0, .int 0, .long 0, .long 0, .int 0, .int 0])), (q_8, .inl (cI, 188, .inl (sp_tabn 175)))] H := hP
  have hD : va_D A [(m0, .inr (7, [.int 0, .null, .int 0, .int 0, .int 0, .int 0, .null, .null, .int 0, .int 0, .int 0, .int 0, .int 0, .null, .int 0, .int 0, .int 0, .int 0, .int 0, .int 0, .int 0, .null, .null, .int 0, .int 0, .int 0, .int 0, .long 0, .long 0, .int 0, .int 0])), (q_8, .inl (cI, 188, .inl (sp_tabn 175)))] := hD
  refine lv_dup hx hb dX8_init_1092 rfl ?_
  refine lv_sipush (v := 175) hx hb dX8_init_1093 (by decide) ?_
  refine lv_iconst (v := 0) hx hb dX8_init_1096 (by decide) ?_
  refine va_iast hx hb hK hP hD hS 1 0 rfl rfl (vp_in_lit (n := 175) rfl (by decide) (by decide)) dX8_init_1097 (fun H locs hP hD hS => ?_)
  have eA : upd (sp_tabn 175) (175 : Int32).toNatClampNeg 0 = sp_tabn 176 := sp_tabn_s (i := 175) (by decide) (by decide)
  rw [eA] at hP hD
  have hP : va_P (dC, dI) vwCl [(m0, .inr (7, [.int 0, .null, .int 0, .int 0, .int 0, .int 0, .null, .null, .int 0, .int 0, .int 0, .int 0, .int 0, .null, .int 0, .int 0, .int 0, .int 0, .int 0, .int 0, .int 0, .null, .null, .int 0, .int 0, .int 0, .int 0, .long 0, .long 0, .int 0, .int 0])), (q_8, .inl (cI, 188, .inl (sp_tabn 176)))] H := hP
  have hD : va_D A [(m0, .inr (7, [.int 0, .null, .int 0, .int 0, .int 0, .int 0, .null, .null, .int 0, .int 0, .int 0, .int 0, .int 0, .null, .int 0, .int 0, .int 0, .int 0, .int 0, .int 0, .int 0, .null, .null, .int 0, .int 0, .int 0, .int 0, .long 0, .long 0, .int 0, .int 0])), (q_8, .inl (cI, 188, .inl (sp_tabn 176)))] := hD
  refine lv_dup hx hb dX8_init_1098 rfl ?_
  refine lv_sipush (v := 176) hx hb dX8_init_1099 (by decide) ?_
  refine lv_iconst (v := 5) hx hb dX8_init_1102 (by decide) ?_
  refine va_iast hx hb hK hP hD hS 1 0 rfl rfl (vp_in_lit (n := 176) rfl (by decide) (by decide)) dX8_init_1103 (fun H locs hP hD hS => ?_)
  have eA : upd (sp_tabn 176) (176 : Int32).toNatClampNeg 5 = sp_tabn 177 := sp_tabn_s (i := 176) (by decide) (by decide)
  rw [eA] at hP hD
  have hP : va_P (dC, dI) vwCl [(m0, .inr (7, [.int 0, .null, .int 0, .int 0, .int 0, .int 0, .null, .null, .int 0, .int 0, .int 0, .int 0, .int 0, .null, .int 0, .int 0, .int 0, .int 0, .int 0, .int 0, .int 0, .null, .null, .int 0, .int 0, .int 0, .int 0, .long 0, .long 0, .int 0, .int 0])), (q_8, .inl (cI, 188, .inl (sp_tabn 177)))] H := hP
  have hD : va_D A [(m0, .inr (7, [.int 0, .null, .int 0, .int 0, .int 0, .int 0, .null, .null, .int 0, .int 0, .int 0, .int 0, .int 0, .null, .int 0, .int 0, .int 0, .int 0, .int 0, .int 0, .int 0, .null, .null, .int 0, .int 0, .int 0, .int 0, .long 0, .long 0, .int 0, .int 0])), (q_8, .inl (cI, 188, .inl (sp_tabn 177)))] := hD
  refine lv_dup hx hb dX8_init_1104 rfl ?_
  refine lv_sipush (v := 177) hx hb dX8_init_1105 (by decide) ?_
  refine lv_bipush (v := 45) hx hb dX8_init_1108 (by decide) ?_
  refine va_iast hx hb hK hP hD hS 1 0 rfl rfl (vp_in_lit (n := 177) rfl (by decide) (by decide)) dX8_init_1110 (fun H locs hP hD hS => ?_)
  have eA : upd (sp_tabn 177) (177 : Int32).toNatClampNeg 45 = sp_tabn 178 := sp_tabn_s (i := 177) (by decide) (by decide)
  rw [eA] at hP hD
  have hP : va_P (dC, dI) vwCl [(m0, .inr (7, [.int 0, .null, .int 0, .int 0, .int 0, .int 0, .null, .null, .int 0, .int 0, .int 0, .int 0, .int 0, .null, .int 0, .int 0, .int 0, .int 0, .int 0, .int 0, .int 0, .null, .null, .int 0, .int 0, .int 0, .int 0, .long 0, .long 0, .int 0, .int 0])), (q_8, .inl (cI, 188, .inl (sp_tabn 178)))] H := hP
  have hD : va_D A [(m0, .inr (7, [.int 0, .null, .int 0, .int 0, .int 0, .int 0, .null, .null, .int 0, .int 0, .int 0, .int 0, .int 0, .null, .int 0, .int 0, .int 0, .int 0, .int 0, .int 0, .int 0, .null, .null, .int 0, .int 0, .int 0, .int 0, .long 0, .long 0, .int 0, .int 0])), (q_8, .inl (cI, 188, .inl (sp_tabn 178)))] := hD
  refine lv_dup hx hb dX8_init_1111 rfl ?_
  refine lv_sipush (v := 178) hx hb dX8_init_1112 (by decide) ?_
  refine lv_bipush (v := 42) hx hb dX8_init_1115 (by decide) ?_
  refine va_iast hx hb hK hP hD hS 1 0 rfl rfl (vp_in_lit (n := 178) rfl (by decide) (by decide)) dX8_init_1117 (fun H locs hP hD hS => ?_)
  have eA : upd (sp_tabn 178) (178 : Int32).toNatClampNeg 42 = sp_tabn 179 := sp_tabn_s (i := 178) (by decide) (by decide)
  rw [eA] at hP hD
  have hP : va_P (dC, dI) vwCl [(m0, .inr (7, [.int 0, .null, .int 0, .int 0, .int 0, .int 0, .null, .null, .int 0, .int 0, .int 0, .int 0, .int 0, .null, .int 0, .int 0, .int 0, .int 0, .int 0, .int 0, .int 0, .null, .null, .int 0, .int 0, .int 0, .int 0, .long 0, .long 0, .int 0, .int 0])), (q_8, .inl (cI, 188, .inl (sp_tabn 179)))] H := hP
  have hD : va_D A [(m0, .inr (7, [.int 0, .null, .int 0, .int 0, .int 0, .int 0, .null, .null, .int 0, .int 0, .int 0, .int 0, .int 0, .null, .int 0, .int 0, .int 0, .int 0, .int 0, .int 0, .int 0, .null, .null, .int 0, .int 0, .int 0, .int 0, .long 0, .long 0, .int 0, .int 0])), (q_8, .inl (cI, 188, .inl (sp_tabn 179)))] := hD
  refine lv_dup hx hb dX8_init_1118 rfl ?_
  refine lv_sipush (v := 179) hx hb dX8_init_1119 (by decide) ?_
  refine lv_iconst (v := 0) hx hb dX8_init_1122 (by decide) ?_
  refine va_iast hx hb hK hP hD hS 1 0 rfl rfl (vp_in_lit (n := 179) rfl (by decide) (by decide)) dX8_init_1123 (fun H locs hP hD hS => ?_)
  have eA : upd (sp_tabn 179) (179 : Int32).toNatClampNeg 0 = sp_tabn 180 := sp_tabn_s (i := 179) (by decide) (by decide)
  rw [eA] at hP hD
  have hP : va_P (dC, dI) vwCl [(m0, .inr (7, [.int 0, .null, .int 0, .int 0, .int 0, .int 0, .null, .null, .int 0, .int 0, .int 0, .int 0, .int 0, .null, .int 0, .int 0, .int 0, .int 0, .int 0, .int 0, .int 0, .null, .null, .int 0, .int 0, .int 0, .int 0, .long 0, .long 0, .int 0, .int 0])), (q_8, .inl (cI, 188, .inl (sp_tabn 180)))] H := hP
  have hD : va_D A [(m0, .inr (7, [.int 0, .null, .int 0, .int 0, .int 0, .int 0, .null, .null, .int 0, .int 0, .int 0, .int 0, .int 0, .null, .int 0, .int 0, .int 0, .int 0, .int 0, .int 0, .int 0, .null, .null, .int 0, .int 0, .int 0, .int 0, .long 0, .long 0, .int 0, .int 0])), (q_8, .inl (cI, 188, .inl (sp_tabn 180)))] := hD
  refine lv_dup hx hb dX8_init_1124 rfl ?_
  refine lv_sipush (v := 180) hx hb dX8_init_1125 (by decide) ?_
  refine lv_iconst (v := 1) hx hb dX8_init_1128 (by decide) ?_
  refine va_iast hx hb hK hP hD hS 1 0 rfl rfl (vp_in_lit (n := 180) rfl (by decide) (by decide)) dX8_init_1129 (fun H locs hP hD hS => ?_)
  have eA : upd (sp_tabn 180) (180 : Int32).toNatClampNeg 1 = sp_tabn 181 := sp_tabn_s (i := 180) (by decide) (by decide)
  rw [eA] at hP hD
  have hP : va_P (dC, dI) vwCl [(m0, .inr (7, [.int 0, .null, .int 0, .int 0, .int 0, .int 0, .null, .null, .int 0, .int 0, .int 0, .int 0, .int 0, .null, .int 0, .int 0, .int 0, .int 0, .int 0, .int 0, .int 0, .null, .null, .int 0, .int 0, .int 0, .int 0, .long 0, .long 0, .int 0, .int 0])), (q_8, .inl (cI, 188, .inl (sp_tabn 181)))] H := hP
  have hD : va_D A [(m0, .inr (7, [.int 0, .null, .int 0, .int 0, .int 0, .int 0, .null, .null, .int 0, .int 0, .int 0, .int 0, .int 0, .null, .int 0, .int 0, .int 0, .int 0, .int 0, .int 0, .int 0, .null, .null, .int 0, .int 0, .int 0, .int 0, .long 0, .long 0, .int 0, .int 0])), (q_8, .inl (cI, 188, .inl (sp_tabn 181)))] := hD
  refine lv_dup hx hb dX8_init_1130 rfl ?_
  refine lv_sipush (v := 181) hx hb dX8_init_1131 (by decide) ?_
  refine lv_bipush (v := 45) hx hb dX8_init_1134 (by decide) ?_
  refine va_iast hx hb hK hP hD hS 1 0 rfl rfl (vp_in_lit (n := 181) rfl (by decide) (by decide)) dX8_init_1136 (fun H locs hP hD hS => ?_)
  have eA : upd (sp_tabn 181) (181 : Int32).toNatClampNeg 45 = sp_tabn 182 := sp_tabn_s (i := 181) (by decide) (by decide)
  rw [eA] at hP hD
  have hP : va_P (dC, dI) vwCl [(m0, .inr (7, [.int 0, .null, .int 0, .int 0, .int 0, .int 0, .null, .null, .int 0, .int 0, .int 0, .int 0, .int 0, .null, .int 0, .int 0, .int 0, .int 0, .int 0, .int 0, .int 0, .null, .null, .int 0, .int 0, .int 0, .int 0, .long 0, .long 0, .int 0, .int 0])), (q_8, .inl (cI, 188, .inl (sp_tabn 182)))] H := hP
  have hD : va_D A [(m0, .inr (7, [.int 0, .null, .int 0, .int 0, .int 0, .int 0, .null, .null, .int 0, .int 0, .int 0, .int 0, .int 0, .null, .int 0, .int 0, .int 0, .int 0, .int 0, .int 0, .int 0, .null, .null, .int 0, .int 0, .int 0, .int 0, .long 0, .long 0, .int 0, .int 0])), (q_8, .inl (cI, 188, .inl (sp_tabn 182)))] := hD
  refine lv_dup hx hb dX8_init_1137 rfl ?_
  refine lv_sipush (v := 182) hx hb dX8_init_1138 (by decide) ?_
  refine lv_bipush (v := 43) hx hb dX8_init_1141 (by decide) ?_
  refine va_iast hx hb hK hP hD hS 1 0 rfl rfl (vp_in_lit (n := 182) rfl (by decide) (by decide)) dX8_init_1143 (fun H locs hP hD hS => ?_)
  have eA : upd (sp_tabn 182) (182 : Int32).toNatClampNeg 43 = sp_tabn 183 := sp_tabn_s (i := 182) (by decide) (by decide)
  rw [eA] at hP hD
  have hP : va_P (dC, dI) vwCl [(m0, .inr (7, [.int 0, .null, .int 0, .int 0, .int 0, .int 0, .null, .null, .int 0, .int 0, .int 0, .int 0, .int 0, .null, .int 0, .int 0, .int 0, .int 0, .int 0, .int 0, .int 0, .null, .null, .int 0, .int 0, .int 0, .int 0, .long 0, .long 0, .int 0, .int 0])), (q_8, .inl (cI, 188, .inl (sp_tabn 183)))] H := hP
  have hD : va_D A [(m0, .inr (7, [.int 0, .null, .int 0, .int 0, .int 0, .int 0, .null, .null, .int 0, .int 0, .int 0, .int 0, .int 0, .null, .int 0, .int 0, .int 0, .int 0, .int 0, .int 0, .int 0, .null, .null, .int 0, .int 0, .int 0, .int 0, .long 0, .long 0, .int 0, .int 0])), (q_8, .inl (cI, 188, .inl (sp_tabn 183)))] := hD
  refine lv_dup hx hb dX8_init_1144 rfl ?_
  refine lv_sipush (v := 183) hx hb dX8_init_1145 (by decide) ?_
  refine lv_iconst (v := 0) hx hb dX8_init_1148 (by decide) ?_
  refine va_iast hx hb hK hP hD hS 1 0 rfl rfl (vp_in_lit (n := 183) rfl (by decide) (by decide)) dX8_init_1149 (fun H locs hP hD hS => ?_)
  have eA : upd (sp_tabn 183) (183 : Int32).toNatClampNeg 0 = sp_tabn 184 := sp_tabn_s (i := 183) (by decide) (by decide)
  rw [eA] at hP hD
  have hP : va_P (dC, dI) vwCl [(m0, .inr (7, [.int 0, .null, .int 0, .int 0, .int 0, .int 0, .null, .null, .int 0, .int 0, .int 0, .int 0, .int 0, .null, .int 0, .int 0, .int 0, .int 0, .int 0, .int 0, .int 0, .null, .null, .int 0, .int 0, .int 0, .int 0, .long 0, .long 0, .int 0, .int 0])), (q_8, .inl (cI, 188, .inl (sp_tabn 184)))] H := hP
  have hD : va_D A [(m0, .inr (7, [.int 0, .null, .int 0, .int 0, .int 0, .int 0, .null, .null, .int 0, .int 0, .int 0, .int 0, .int 0, .null, .int 0, .int 0, .int 0, .int 0, .int 0, .int 0, .int 0, .null, .null, .int 0, .int 0, .int 0, .int 0, .long 0, .long 0, .int 0, .int 0])), (q_8, .inl (cI, 188, .inl (sp_tabn 184)))] := hD
  refine lv_dup hx hb dX8_init_1150 rfl ?_
  refine lv_sipush (v := 184) hx hb dX8_init_1151 (by decide) ?_
  refine lv_sipush (v := 22017) hx hb dX8_init_1154 (by decide) ?_
  refine va_iast hx hb hK hP hD hS 1 0 rfl rfl (vp_in_lit (n := 184) rfl (by decide) (by decide)) dX8_init_1157 (fun H locs hP hD hS => ?_)
  have eA : upd (sp_tabn 184) (184 : Int32).toNatClampNeg 22017 = sp_tabn 185 := sp_tabn_s (i := 184) (by decide) (by decide)
  rw [eA] at hP hD
  have hP : va_P (dC, dI) vwCl [(m0, .inr (7, [.int 0, .null, .int 0, .int 0, .int 0, .int 0, .null, .null, .int 0, .int 0, .int 0, .int 0, .int 0, .null, .int 0, .int 0, .int 0, .int 0, .int 0, .int 0, .int 0, .null, .null, .int 0, .int 0, .int 0, .int 0, .long 0, .long 0, .int 0, .int 0])), (q_8, .inl (cI, 188, .inl (sp_tabn 185)))] H := hP
  have hD : va_D A [(m0, .inr (7, [.int 0, .null, .int 0, .int 0, .int 0, .int 0, .null, .null, .int 0, .int 0, .int 0, .int 0, .int 0, .null, .int 0, .int 0, .int 0, .int 0, .int 0, .int 0, .int 0, .null, .null, .int 0, .int 0, .int 0, .int 0, .long 0, .long 0, .int 0, .int 0])), (q_8, .inl (cI, 188, .inl (sp_tabn 185)))] := hD
  refine lv_dup hx hb dX8_init_1158 rfl ?_
  refine lv_sipush (v := 185) hx hb dX8_init_1159 (by decide) ?_
  refine lv_bipush (v := 46) hx hb dX8_init_1162 (by decide) ?_
  refine va_iast hx hb hK hP hD hS 1 0 rfl rfl (vp_in_lit (n := 185) rfl (by decide) (by decide)) dX8_init_1164 (fun H locs hP hD hS => ?_)
  have eA : upd (sp_tabn 185) (185 : Int32).toNatClampNeg 46 = sp_tabn 186 := sp_tabn_s (i := 185) (by decide) (by decide)
  rw [eA] at hP hD
  have hP : va_P (dC, dI) vwCl [(m0, .inr (7, [.int 0, .null, .int 0, .int 0, .int 0, .int 0, .null, .null, .int 0, .int 0, .int 0, .int 0, .int 0, .null, .int 0, .int 0, .int 0, .int 0, .int 0, .int 0, .int 0, .null, .null, .int 0, .int 0, .int 0, .int 0, .long 0, .long 0, .int 0, .int 0])), (q_8, .inl (cI, 188, .inl (sp_tabn 186)))] H := hP
  have hD : va_D A [(m0, .inr (7, [.int 0, .null, .int 0, .int 0, .int 0, .int 0, .null, .null, .int 0, .int 0, .int 0, .int 0, .int 0, .null, .int 0, .int 0, .int 0, .int 0, .int 0, .int 0, .int 0, .null, .null, .int 0, .int 0, .int 0, .int 0, .long 0, .long 0, .int 0, .int 0])), (q_8, .inl (cI, 188, .inl (sp_tabn 186)))] := hD
  refine lv_dup hx hb dX8_init_1165 rfl ?_
  refine lv_sipush (v := 186) hx hb dX8_init_1166 (by decide) ?_
  refine lv_bipush (v := 46) hx hb dX8_init_1169 (by decide) ?_
  refine va_iast hx hb hK hP hD hS 1 0 rfl rfl (vp_in_lit (n := 186) rfl (by decide) (by decide)) dX8_init_1171 (fun H locs hP hD hS => ?_)
  have eA : upd (sp_tabn 186) (186 : Int32).toNatClampNeg 46 = sp_tabn 187 := sp_tabn_s (i := 186) (by decide) (by decide)
  rw [eA] at hP hD
  have hP : va_P (dC, dI) vwCl [(m0, .inr (7, [.int 0, .null, .int 0, .int 0, .int 0, .int 0, .null, .null, .int 0, .int 0, .int 0, .int 0, .int 0, .null, .int 0, .int 0, .int 0, .int 0, .int 0, .int 0, .int 0, .null, .null, .int 0, .int 0, .int 0, .int 0, .long 0, .long 0, .int 0, .int 0])), (q_8, .inl (cI, 188, .inl (sp_tabn 187)))] H := hP
  have hD : va_D A [(m0, .inr (7, [.int 0, .null, .int 0, .int 0, .int 0, .int 0, .null, .null, .int 0, .int 0, .int 0, .int 0, .int 0, .null, .int 0, .int 0, .int 0, .int 0, .int 0, .int 0, .int 0, .null, .null, .int 0, .int 0, .int 0, .int 0, .long 0, .long 0, .int 0, .int 0])), (q_8, .inl (cI, 188, .inl (sp_tabn 187)))] := hD
  refine lv_dup hx hb dX8_init_1172 rfl ?_
  refine lv_sipush (v := 187) hx hb dX8_init_1173 (by decide) ?_
  refine lv_iconst (v := 0) hx hb dX8_init_1176 (by decide) ?_
  refine va_iast hx hb hK hP hD hS 1 0 rfl rfl (vp_in_lit (n := 187) rfl (by decide) (by decide)) dX8_init_1177 (fun H locs hP hD hS => ?_)
  have eA : upd (sp_tabn 187) (187 : Int32).toNatClampNeg 0 = sp_tabn 188 := sp_tabn_s (i := 187) (by decide) (by decide)
  rw [eA] at hP hD
  have hP : va_P (dC, dI) vwCl [(m0, .inr (7, [.int 0, .null, .int 0, .int 0, .int 0, .int 0, .null, .null, .int 0, .int 0, .int 0, .int 0, .int 0, .null, .int 0, .int 0, .int 0, .int 0, .int 0, .int 0, .int 0, .null, .null, .int 0, .int 0, .int 0, .int 0, .long 0, .long 0, .int 0, .int 0])), (q_8, .inl (cI, 188, .inl (sp_tabn 188)))] H := hP
  have hD : va_D A [(m0, .inr (7, [.int 0, .null, .int 0, .int 0, .int 0, .int 0, .null, .null, .int 0, .int 0, .int 0, .int 0, .int 0, .null, .int 0, .int 0, .int 0, .int 0, .int 0, .int 0, .int 0, .null, .null, .int 0, .int 0, .int 0, .int 0, .long 0, .long 0, .int 0, .int 0])), (q_8, .inl (cI, 188, .inl (sp_tabn 188)))] := hD
  refine va_putF (D := (dC, dI)) (ci := 7) (v := .ref q_8) (ty := .array .int) (C := RX8) (T := TX8) (N := 31) hx hb hts hiX8 tyX8 tyX8_ok nmX8 hown hK hP hD hS 0 rfl rfl 1 (by decide) (hts (.fieldLink RX8 7 "RefineRegionsModel" "table" "[I") (by decide +kernel)) (fun _ h9 => h9) rfl hin rfl (by decide +kernel) rfl rfl (Nat.le_of_ble_eq_true rfl) dX8_init_1178 (fun H locs hP hD hS => ?_)
  have hP : va_P (dC, dI) vwCl [(m0, .inr (7, [.int 0, .ref q_8, .int 0, .int 0, .int 0, .int 0, .null, .null, .int 0, .int 0, .int 0, .int 0, .int 0, .null, .int 0, .int 0, .int 0, .int 0, .int 0, .int 0, .int 0, .null, .null, .int 0, .int 0, .int 0, .int 0, .long 0, .long 0, .int 0, .int 0])), (q_8, .inl (cI, 188, .inl (sp_tabn 188)))] H := hP
  have hD : va_D A [(m0, .inr (7, [.int 0, .ref q_8, .int 0, .int 0, .int 0, .int 0, .null, .null, .int 0, .int 0, .int 0, .int 0, .int 0, .null, .int 0, .int 0, .int 0, .int 0, .int 0, .int 0, .int 0, .null, .null, .int 0, .int 0, .int 0, .int 0, .long 0, .long 0, .int 0, .int 0])), (q_8, .inl (cI, 188, .inl (sp_tabn 188)))] := hD
  refine lv_aload_n hx hb dX8_init_1181 rfl (lv_at hl 0 rfl) ?_
  refine lv_bipush (v := 8) hx hb dX8_init_1182 (by decide) ?_
  refine va_put (D := (dC, dI)) (ci := 7) (v := .int 8) (ty := .int) (C := RX8) (T := TX8) (N := 31) hx hb hts hiX8 tyX8 tyX8_ok nmX8 hown hK hP hD hS 0 rfl rfl 2 (by decide) (hts (.fieldLink RX8 13 "RefineRegionsModel" "width" "I") (by decide +kernel)) (fun _ h9 => h9) rfl (by decide +kernel) rfl rfl (Nat.le_of_ble_eq_true rfl) dX8_init_1184 (fun H locs hP hD hS => ?_)
  have hP : va_P (dC, dI) vwCl [(m0, .inr (7, [.int 0, .ref q_8, .int 8, .int 0, .int 0, .int 0, .null, .null, .int 0, .int 0, .int 0, .int 0, .int 0, .null, .int 0, .int 0, .int 0, .int 0, .int 0, .int 0, .int 0, .null, .null, .int 0, .int 0, .int 0, .int 0, .long 0, .long 0, .int 0, .int 0])), (q_8, .inl (cI, 188, .inl (sp_tabn 188)))] H := hP
  have hD : va_D A [(m0, .inr (7, [.int 0, .ref q_8, .int 8, .int 0, .int 0, .int 0, .null, .null, .int 0, .int 0, .int 0, .int 0, .int 0, .null, .int 0, .int 0, .int 0, .int 0, .int 0, .int 0, .int 0, .null, .null, .int 0, .int 0, .int 0, .int 0, .long 0, .long 0, .int 0, .int 0])), (q_8, .inl (cI, 188, .inl (sp_tabn 188)))] := hD
  refine lv_aload_n hx hb dX8_init_1187 rfl (lv_at hl 0 rfl) ?_
  refine lv_bipush (v := 8) hx hb dX8_init_1188 (by decide) ?_
  refine va_put (D := (dC, dI)) (ci := 7) (v := .int 8) (ty := .int) (C := RX8) (T := TX8) (N := 31) hx hb hts hiX8 tyX8 tyX8_ok nmX8 hown hK hP hD hS 0 rfl rfl 3 (by decide) (hts (.fieldLink RX8 17 "RefineRegionsModel" "height" "I") (by decide +kernel)) (fun _ h9 => h9) rfl (by decide +kernel) rfl rfl (Nat.le_of_ble_eq_true rfl) dX8_init_1190 (fun H locs hP hD hS => ?_)
  have hP : va_P (dC, dI) vwCl [(m0, .inr (7, [.int 0, .ref q_8, .int 8, .int 8, .int 0, .int 0, .null, .null, .int 0, .int 0, .int 0, .int 0, .int 0, .null, .int 0, .int 0, .int 0, .int 0, .int 0, .int 0, .int 0, .null, .null, .int 0, .int 0, .int 0, .int 0, .long 0, .long 0, .int 0, .int 0])), (q_8, .inl (cI, 188, .inl (sp_tabn 188)))] H := hP
  have hD : va_D A [(m0, .inr (7, [.int 0, .ref q_8, .int 8, .int 8, .int 0, .int 0, .null, .null, .int 0, .int 0, .int 0, .int 0, .int 0, .null, .int 0, .int 0, .int 0, .int 0, .int 0, .int 0, .int 0, .null, .null, .int 0, .int 0, .int 0, .int 0, .long 0, .long 0, .int 0, .int 0])), (q_8, .inl (cI, 188, .inl (sp_tabn 188)))] := hD
  refine lv_aload_n hx hb dX8_init_1193 rfl (lv_at hl 0 rfl) ?_
  refine lv_sipush (v := 1600) hx hb dX8_init_1194 (by decide) ?_
  refine hw_newz 1600 1 hx hb (hts (.arrayClass .boolean) (by decide +kernel)) hK rfl hP hD hS hA (by decide +kernel) (by decide +kernel) (Nat.le_of_ble_eq_true rfl) (Nat.le_of_ble_eq_true rfl) (Nat.le_of_ble_eq_true rfl) dX8_init_1197 (fun q_1197 H hP hD hS => ?_)
  refine W.widen (k := 2) (n := 1788) (Nat.le_of_ble_eq_true rfl) (Nat.le_of_ble_eq_true rfl) ?_
  have hP : va_P (dC, dI) vwCl [(m0, .inr (7, [.int 0, .ref q_8, .int 8, .int 8, .int 0, .int 0, .null, .null, .int 0, .int 0, .int 0, .int 0, .int 0, .null, .int 0, .int 0, .int 0, .int 0, .int 0, .int 0, .int 0, .null, .null, .int 0, .int 0, .int 0, .int 0, .long 0, .long 0, .int 0, .int 0])), (q_8, .inl (cI, 188, .inl (sp_tabn 188))), (q_1197, .inl (cZ, 1600, .inl (fun _ => 0)))] H := hP
  have hD : va_D A [(m0, .inr (7, [.int 0, .ref q_8, .int 8, .int 8, .int 0, .int 0, .null, .null, .int 0, .int 0, .int 0, .int 0, .int 0, .null, .int 0, .int 0, .int 0, .int 0, .int 0, .int 0, .int 0, .null, .null, .int 0, .int 0, .int 0, .int 0, .long 0, .long 0, .int 0, .int 0])), (q_8, .inl (cI, 188, .inl (sp_tabn 188))), (q_1197, .inl (cZ, 1600, .inl (fun _ => 0)))] := hD
  refine va_putF (D := (dC, dI)) (ci := 7) (v := .ref q_1197) (ty := .array .boolean) (C := RX8) (T := TX8) (N := 31) hx hb hts hiX8 tyX8 tyX8_ok nmX8 hown hK hP hD hS 0 rfl rfl 6 (by decide) (hts (.fieldLink RX8 20 "RefineRegionsModel" "picture" "[Z") (by decide +kernel)) (fun _ h9 => h9) rfl hin rfl (by decide +kernel) rfl rfl (Nat.le_of_ble_eq_true rfl) dX8_init_1199 (fun H locs hP hD hS => ?_)
  have hP : va_P (dC, dI) vwCl [(m0, .inr (7, [.int 0, .ref q_8, .int 8, .int 8, .int 0, .int 0, .ref q_1197, .null, .int 0, .int 0, .int 0, .int 0, .int 0, .null, .int 0, .int 0, .int 0, .int 0, .int 0, .int 0, .int 0, .null, .null, .int 0, .int 0, .int 0, .int 0, .long 0, .long 0, .int 0, .int 0])), (q_8, .inl (cI, 188, .inl (sp_tabn 188))), (q_1197, .inl (cZ, 1600, .inl (fun _ => 0)))] H := hP
  have hD : va_D A [(m0, .inr (7, [.int 0, .ref q_8, .int 8, .int 8, .int 0, .int 0, .ref q_1197, .null, .int 0, .int 0, .int 0, .int 0, .int 0, .null, .int 0, .int 0, .int 0, .int 0, .int 0, .int 0, .int 0, .null, .null, .int 0, .int 0, .int 0, .int 0, .long 0, .long 0, .int 0, .int 0])), (q_8, .inl (cI, 188, .inl (sp_tabn 188))), (q_1197, .inl (cZ, 1600, .inl (fun _ => 0)))] := hD
  refine lv_aload_n hx hb dX8_init_1202 rfl (lv_at hl 0 rfl) ?_
  refine lv_sipush (v := 1600) hx hb dX8_init_1203 (by decide) ?_
  refine hw_newz 1600 1 hx hb (hts (.arrayClass .boolean) (by decide +kernel)) hK rfl hP hD hS hA (by decide +kernel) (by decide +kernel) (Nat.le_of_ble_eq_true rfl) (Nat.le_of_ble_eq_true rfl) (Nat.le_of_ble_eq_true rfl) dX8_init_1206 (fun q_1206 H hP hD hS => ?_)
  refine W.widen (k := 3) (n := 3388) (Nat.le_of_ble_eq_true rfl) (Nat.le_of_ble_eq_true rfl) ?_
  have hP : va_P (dC, dI) vwCl [(m0, .inr (7, [.int 0, .ref q_8, .int 8, .int 8, .int 0, .int 0, .ref q_1197, .null, .int 0, .int 0, .int 0, .int 0, .int 0, .null, .int 0, .int 0, .int 0, .int 0, .int 0, .int 0, .int 0, .null, .null, .int 0, .int 0, .int 0, .int 0, .long 0, .long 0, .int 0, .int 0])), (q_8, .inl (cI, 188, .inl (sp_tabn 188))), (q_1197, .inl (cZ, 1600, .inl (fun _ => 0))), (q_1206, .inl (cZ, 1600, .inl (fun _ => 0)))] H := hP
  have hD : va_D A [(m0, .inr (7, [.int 0, .ref q_8, .int 8, .int 8, .int 0, .int 0, .ref q_1197, .null, .int 0, .int 0, .int 0, .int 0, .int 0, .null, .int 0, .int 0, .int 0, .int 0, .int 0, .int 0, .int 0, .null, .null, .int 0, .int 0, .int 0, .int 0, .long 0, .long 0, .int 0, .int 0])), (q_8, .inl (cI, 188, .inl (sp_tabn 188))), (q_1197, .inl (cZ, 1600, .inl (fun _ => 0))), (q_1206, .inl (cZ, 1600, .inl (fun _ => 0)))] := hD
  refine va_putF (D := (dC, dI)) (ci := 7) (v := .ref q_1206) (ty := .array .boolean) (C := RX8) (T := TX8) (N := 31) hx hb hts hiX8 tyX8 tyX8_ok nmX8 hown hK hP hD hS 0 rfl rfl 7 (by decide) (hts (.fieldLink RX8 24 "RefineRegionsModel" "read" "[Z") (by decide +kernel)) (fun _ h9 => h9) rfl hin rfl (by decide +kernel) rfl rfl (Nat.le_of_ble_eq_true rfl) dX8_init_1208 (fun H locs hP hD hS => ?_)
  have hP : va_P (dC, dI) vwCl [(m0, .inr (7, [.int 0, .ref q_8, .int 8, .int 8, .int 0, .int 0, .ref q_1197, .ref q_1206, .int 0, .int 0, .int 0, .int 0, .int 0, .null, .int 0, .int 0, .int 0, .int 0, .int 0, .int 0, .int 0, .null, .null, .int 0, .int 0, .int 0, .int 0, .long 0, .long 0, .int 0, .int 0])), (q_8, .inl (cI, 188, .inl (sp_tabn 188))), (q_1197, .inl (cZ, 1600, .inl (fun _ => 0))), (q_1206, .inl (cZ, 1600, .inl (fun _ => 0)))] H := hP
  have hD : va_D A [(m0, .inr (7, [.int 0, .ref q_8, .int 8, .int 8, .int 0, .int 0, .ref q_1197, .ref q_1206, .int 0, .int 0, .int 0, .int 0, .int 0, .null, .int 0, .int 0, .int 0, .int 0, .int 0, .int 0, .int 0, .null, .null, .int 0, .int 0, .int 0, .int 0, .long 0, .long 0, .int 0, .int 0])), (q_8, .inl (cI, 188, .inl (sp_tabn 188))), (q_1197, .inl (cZ, 1600, .inl (fun _ => 0))), (q_1206, .inl (cZ, 1600, .inl (fun _ => 0)))] := hD
  refine lv_aload_n hx hb dX8_init_1211 rfl (lv_at hl 0 rfl) ?_
  refine lv_sipush (v := 3600) hx hb dX8_init_1212 (by decide) ?_
  refine hw_newz 3600 1 hx hb (hts (.arrayClass .boolean) (by decide +kernel)) hK rfl hP hD hS hA (by decide +kernel) (by decide +kernel) (Nat.le_of_ble_eq_true rfl) (Nat.le_of_ble_eq_true rfl) (Nat.le_of_ble_eq_true rfl) dX8_init_1215 (fun q_1215 H hP hD hS => ?_)
  refine W.widen (k := 4) (n := 6988) (Nat.le_of_ble_eq_true rfl) (Nat.le_of_ble_eq_true rfl) ?_
  have hP : va_P (dC, dI) vwCl [(m0, .inr (7, [.int 0, .ref q_8, .int 8, .int 8, .int 0, .int 0, .ref q_1197, .ref q_1206, .int 0, .int 0, .int 0, .int 0, .int 0, .null, .int 0, .int 0, .int 0, .int 0, .int 0, .int 0, .int 0, .null, .null, .int 0, .int 0, .int 0, .int 0, .long 0, .long 0, .int 0, .int 0])), (q_8, .inl (cI, 188, .inl (sp_tabn 188))), (q_1197, .inl (cZ, 1600, .inl (fun _ => 0))), (q_1206, .inl (cZ, 1600, .inl (fun _ => 0))), (q_1215, .inl (cZ, 3600, .inl (fun _ => 0)))] H := hP
  have hD : va_D A [(m0, .inr (7, [.int 0, .ref q_8, .int 8, .int 8, .int 0, .int 0, .ref q_1197, .ref q_1206, .int 0, .int 0, .int 0, .int 0, .int 0, .null, .int 0, .int 0, .int 0, .int 0, .int 0, .int 0, .int 0, .null, .null, .int 0, .int 0, .int 0, .int 0, .long 0, .long 0, .int 0, .int 0])), (q_8, .inl (cI, 188, .inl (sp_tabn 188))), (q_1197, .inl (cZ, 1600, .inl (fun _ => 0))), (q_1206, .inl (cZ, 1600, .inl (fun _ => 0))), (q_1215, .inl (cZ, 3600, .inl (fun _ => 0)))] := hD
  refine va_putF (D := (dC, dI)) (ci := 7) (v := .ref q_1215) (ty := .array .boolean) (C := RX8) (T := TX8) (N := 31) hx hb hts hiX8 tyX8 tyX8_ok nmX8 hown hK hP hD hS 0 rfl rfl 13 (by decide) (hts (.fieldLink RX8 27 "RefineRegionsModel" "reference" "[Z") (by decide +kernel)) (fun _ h9 => h9) rfl hin rfl (by decide +kernel) rfl rfl (Nat.le_of_ble_eq_true rfl) dX8_init_1217 (fun H locs hP hD hS => ?_)
  have hP : va_P (dC, dI) vwCl [(m0, .inr (7, [.int 0, .ref q_8, .int 8, .int 8, .int 0, .int 0, .ref q_1197, .ref q_1206, .int 0, .int 0, .int 0, .int 0, .int 0, .ref q_1215, .int 0, .int 0, .int 0, .int 0, .int 0, .int 0, .int 0, .null, .null, .int 0, .int 0, .int 0, .int 0, .long 0, .long 0, .int 0, .int 0])), (q_8, .inl (cI, 188, .inl (sp_tabn 188))), (q_1197, .inl (cZ, 1600, .inl (fun _ => 0))), (q_1206, .inl (cZ, 1600, .inl (fun _ => 0))), (q_1215, .inl (cZ, 3600, .inl (fun _ => 0)))] H := hP
  have hD : va_D A [(m0, .inr (7, [.int 0, .ref q_8, .int 8, .int 8, .int 0, .int 0, .ref q_1197, .ref q_1206, .int 0, .int 0, .int 0, .int 0, .int 0, .ref q_1215, .int 0, .int 0, .int 0, .int 0, .int 0, .int 0, .int 0, .null, .null, .int 0, .int 0, .int 0, .int 0, .long 0, .long 0, .int 0, .int 0])), (q_8, .inl (cI, 188, .inl (sp_tabn 188))), (q_1197, .inl (cZ, 1600, .inl (fun _ => 0))), (q_1206, .inl (cZ, 1600, .inl (fun _ => 0))), (q_1215, .inl (cZ, 3600, .inl (fun _ => 0)))] := hD
  refine lv_aload_n hx hb dX8_init_1220 rfl (lv_at hl 0 rfl) ?_
  refine lv_iconst (v := (-1)) hx hb dX8_init_1221 (by decide) ?_
  refine va_put (D := (dC, dI)) (ci := 7) (v := .int (-1)) (ty := .int) (C := RX8) (T := TX8) (N := 31) hx hb hts hiX8 tyX8 tyX8_ok nmX8 hown hK hP hD hS 0 rfl rfl 16 (by decide) (hts (.fieldLink RX8 30 "RefineRegionsModel" "p0" "I") (by decide +kernel)) (fun _ h9 => h9) rfl (by decide +kernel) rfl rfl (Nat.le_of_ble_eq_true rfl) dX8_init_1222 (fun H locs hP hD hS => ?_)
  have hP : va_P (dC, dI) vwCl [(m0, .inr (7, [.int 0, .ref q_8, .int 8, .int 8, .int 0, .int 0, .ref q_1197, .ref q_1206, .int 0, .int 0, .int 0, .int 0, .int 0, .ref q_1215, .int 0, .int 0, .int (-1), .int 0, .int 0, .int 0, .int 0, .null, .null, .int 0, .int 0, .int 0, .int 0, .long 0, .long 0, .int 0, .int 0])), (q_8, .inl (cI, 188, .inl (sp_tabn 188))), (q_1197, .inl (cZ, 1600, .inl (fun _ => 0))), (q_1206, .inl (cZ, 1600, .inl (fun _ => 0))), (q_1215, .inl (cZ, 3600, .inl (fun _ => 0)))] H := hP
  have hD : va_D A [(m0, .inr (7, [.int 0, .ref q_8, .int 8, .int 8, .int 0, .int 0, .ref q_1197, .ref q_1206, .int 0, .int 0, .int 0, .int 0, .int 0, .ref q_1215, .int 0, .int 0, .int (-1), .int 0, .int 0, .int 0, .int 0, .null, .null, .int 0, .int 0, .int 0, .int 0, .long 0, .long 0, .int 0, .int 0])), (q_8, .inl (cI, 188, .inl (sp_tabn 188))), (q_1197, .inl (cZ, 1600, .inl (fun _ => 0))), (q_1206, .inl (cZ, 1600, .inl (fun _ => 0))), (q_1215, .inl (cZ, 3600, .inl (fun _ => 0)))] := hD
  refine lv_aload_n hx hb dX8_init_1225 rfl (lv_at hl 0 rfl) ?_
  refine lv_iconst (v := (-1)) hx hb dX8_init_1226 (by decide) ?_
  refine va_put (D := (dC, dI)) (ci := 7) (v := .int (-1)) (ty := .int) (C := RX8) (T := TX8) (N := 31) hx hb hts hiX8 tyX8 tyX8_ok nmX8 hown hK hP hD hS 0 rfl rfl 17 (by decide) (hts (.fieldLink RX8 33 "RefineRegionsModel" "q0" "I") (by decide +kernel)) (fun _ h9 => h9) rfl (by decide +kernel) rfl rfl (Nat.le_of_ble_eq_true rfl) dX8_init_1227 (fun H locs hP hD hS => ?_)
  have hP : va_P (dC, dI) vwCl [(m0, .inr (7, [.int 0, .ref q_8, .int 8, .int 8, .int 0, .int 0, .ref q_1197, .ref q_1206, .int 0, .int 0, .int 0, .int 0, .int 0, .ref q_1215, .int 0, .int 0, .int (-1), .int (-1), .int 0, .int 0, .int 0, .null, .null, .int 0, .int 0, .int 0, .int 0, .long 0, .long 0, .int 0, .int 0])), (q_8, .inl (cI, 188, .inl (sp_tabn 188))), (q_1197, .inl (cZ, 1600, .inl (fun _ => 0))), (q_1206, .inl (cZ, 1600, .inl (fun _ => 0))), (q_1215, .inl (cZ, 3600, .inl (fun _ => 0)))] H := hP
  have hD : va_D A [(m0, .inr (7, [.int 0, .ref q_8, .int 8, .int 8, .int 0, .int 0, .ref q_1197, .ref q_1206, .int 0, .int 0, .int 0, .int 0, .int 0, .ref q_1215, .int 0, .int 0, .int (-1), .int (-1), .int 0, .int 0, .int 0, .null, .null, .int 0, .int 0, .int 0, .int 0, .long 0, .long 0, .int 0, .int 0])), (q_8, .inl (cI, 188, .inl (sp_tabn 188))), (q_1197, .inl (cZ, 1600, .inl (fun _ => 0))), (q_1206, .inl (cZ, 1600, .inl (fun _ => 0))), (q_1215, .inl (cZ, 3600, .inl (fun _ => 0)))] := hD
  refine lv_aload_n hx hb dX8_init_1230 rfl (lv_at hl 0 rfl) ?_
  refine lv_iconst (v := (-1)) hx hb dX8_init_1231 (by decide) ?_
  refine va_put (D := (dC, dI)) (ci := 7) (v := .int (-1)) (ty := .int) (C := RX8) (T := TX8) (N := 31) hx hb hts hiX8 tyX8 tyX8_ok nmX8 hown hK hP hD hS 0 rfl rfl 18 (by decide) (hts (.fieldLink RX8 36 "RefineRegionsModel" "p1" "I") (by decide +kernel)) (fun _ h9 => h9) rfl (by decide +kernel) rfl rfl (Nat.le_of_ble_eq_true rfl) dX8_init_1232 (fun H locs hP hD hS => ?_)
  have hP : va_P (dC, dI) vwCl [(m0, .inr (7, [.int 0, .ref q_8, .int 8, .int 8, .int 0, .int 0, .ref q_1197, .ref q_1206, .int 0, .int 0, .int 0, .int 0, .int 0, .ref q_1215, .int 0, .int 0, .int (-1), .int (-1), .int (-1), .int 0, .int 0, .null, .null, .int 0, .int 0, .int 0, .int 0, .long 0, .long 0, .int 0, .int 0])), (q_8, .inl (cI, 188, .inl (sp_tabn 188))), (q_1197, .inl (cZ, 1600, .inl (fun _ => 0))), (q_1206, .inl (cZ, 1600, .inl (fun _ => 0))), (q_1215, .inl (cZ, 3600, .inl (fun _ => 0)))] H := hP
  have hD : va_D A [(m0, .inr (7, [.int 0, .ref q_8, .int 8, .int 8, .int 0, .int 0, .ref q_1197, .ref q_1206, .int 0, .int 0, .int 0, .int 0, .int 0, .ref q_1215, .int 0, .int 0, .int (-1), .int (-1), .int (-1), .int 0, .int 0, .null, .null, .int 0, .int 0, .int 0, .int 0, .long 0, .long 0, .int 0, .int 0])), (q_8, .inl (cI, 188, .inl (sp_tabn 188))), (q_1197, .inl (cZ, 1600, .inl (fun _ => 0))), (q_1206, .inl (cZ, 1600, .inl (fun _ => 0))), (q_1215, .inl (cZ, 3600, .inl (fun _ => 0)))] := hD
  refine lv_aload_n hx hb dX8_init_1235 rfl (lv_at hl 0 rfl) ?_
  refine lv_iconst (v := (-1)) hx hb dX8_init_1236 (by decide) ?_
  refine va_put (D := (dC, dI)) (ci := 7) (v := .int (-1)) (ty := .int) (C := RX8) (T := TX8) (N := 31) hx hb hts hiX8 tyX8 tyX8_ok nmX8 hown hK hP hD hS 0 rfl rfl 19 (by decide) (hts (.fieldLink RX8 39 "RefineRegionsModel" "q1" "I") (by decide +kernel)) (fun _ h9 => h9) rfl (by decide +kernel) rfl rfl (Nat.le_of_ble_eq_true rfl) dX8_init_1237 (fun H locs hP hD hS => ?_)
  have hP : va_P (dC, dI) vwCl [(m0, .inr (7, [.int 0, .ref q_8, .int 8, .int 8, .int 0, .int 0, .ref q_1197, .ref q_1206, .int 0, .int 0, .int 0, .int 0, .int 0, .ref q_1215, .int 0, .int 0, .int (-1), .int (-1), .int (-1), .int (-1), .int 0, .null, .null, .int 0, .int 0, .int 0, .int 0, .long 0, .long 0, .int 0, .int 0])), (q_8, .inl (cI, 188, .inl (sp_tabn 188))), (q_1197, .inl (cZ, 1600, .inl (fun _ => 0))), (q_1206, .inl (cZ, 1600, .inl (fun _ => 0))), (q_1215, .inl (cZ, 3600, .inl (fun _ => 0)))] H := hP
  have hD : va_D A [(m0, .inr (7, [.int 0, .ref q_8, .int 8, .int 8, .int 0, .int 0, .ref q_1197, .ref q_1206, .int 0, .int 0, .int 0, .int 0, .int 0, .ref q_1215, .int 0, .int 0, .int (-1), .int (-1), .int (-1), .int (-1), .int 0, .null, .null, .int 0, .int 0, .int 0, .int 0, .long 0, .long 0, .int 0, .int 0])), (q_8, .inl (cI, 188, .inl (sp_tabn 188))), (q_1197, .inl (cZ, 1600, .inl (fun _ => 0))), (q_1206, .inl (cZ, 1600, .inl (fun _ => 0))), (q_1215, .inl (cZ, 3600, .inl (fun _ => 0)))] := hD
  refine lv_aload_n hx hb dX8_init_1240 rfl (lv_at hl 0 rfl) ?_
  refine lv_sipush (v := 16384) hx hb dX8_init_1241 (by decide) ?_
  refine hw_newi 16384 0 hx hb (hts (.arrayClass .int) (by decide +kernel)) hK rfl hP hD hS hA (by decide +kernel) (by decide +kernel) (Nat.le_of_ble_eq_true rfl) (Nat.le_of_ble_eq_true rfl) (Nat.le_of_ble_eq_true rfl) dX8_init_1244 (fun q_1244 H hP hD hS => ?_)
  refine W.widen (k := 5) (n := 23372) (Nat.le_of_ble_eq_true rfl) (Nat.le_of_ble_eq_true rfl) ?_
  have hP : va_P (dC, dI) vwCl [(m0, .inr (7, [.int 0, .ref q_8, .int 8, .int 8, .int 0, .int 0, .ref q_1197, .ref q_1206, .int 0, .int 0, .int 0, .int 0, .int 0, .ref q_1215, .int 0, .int 0, .int (-1), .int (-1), .int (-1), .int (-1), .int 0, .null, .null, .int 0, .int 0, .int 0, .int 0, .long 0, .long 0, .int 0, .int 0])), (q_8, .inl (cI, 188, .inl (sp_tabn 188))), (q_1197, .inl (cZ, 1600, .inl (fun _ => 0))), (q_1206, .inl (cZ, 1600, .inl (fun _ => 0))), (q_1215, .inl (cZ, 3600, .inl (fun _ => 0))), (q_1244, .inl (cI, 16384, .inl (fun _ => 0)))] H := hP
  have hD : va_D A [(m0, .inr (7, [.int 0, .ref q_8, .int 8, .int 8, .int 0, .int 0, .ref q_1197, .ref q_1206, .int 0, .int 0, .int 0, .int 0, .int 0, .ref q_1215, .int 0, .int 0, .int (-1), .int (-1), .int (-1), .int (-1), .int 0, .null, .null, .int 0, .int 0, .int 0, .int 0, .long 0, .long 0, .int 0, .int 0])), (q_8, .inl (cI, 188, .inl (sp_tabn 188))), (q_1197, .inl (cZ, 1600, .inl (fun _ => 0))), (q_1206, .inl (cZ, 1600, .inl (fun _ => 0))), (q_1215, .inl (cZ, 3600, .inl (fun _ => 0))), (q_1244, .inl (cI, 16384, .inl (fun _ => 0)))] := hD
  refine va_putF (D := (dC, dI)) (ci := 7) (v := .ref q_1244) (ty := .array .int) (C := RX8) (T := TX8) (N := 31) hx hb hts hiX8 tyX8 tyX8_ok nmX8 hown hK hP hD hS 0 rfl rfl 21 (by decide) (hts (.fieldLink RX8 42 "RefineRegionsModel" "states" "[I") (by decide +kernel)) (fun _ h9 => h9) rfl hin rfl (by decide +kernel) rfl rfl (Nat.le_of_ble_eq_true rfl) dX8_init_1246 (fun H locs hP hD hS => ?_)
  have hP : va_P (dC, dI) vwCl [(m0, .inr (7, [.int 0, .ref q_8, .int 8, .int 8, .int 0, .int 0, .ref q_1197, .ref q_1206, .int 0, .int 0, .int 0, .int 0, .int 0, .ref q_1215, .int 0, .int 0, .int (-1), .int (-1), .int (-1), .int (-1), .int 0, .ref q_1244, .null, .int 0, .int 0, .int 0, .int 0, .long 0, .long 0, .int 0, .int 0])), (q_8, .inl (cI, 188, .inl (sp_tabn 188))), (q_1197, .inl (cZ, 1600, .inl (fun _ => 0))), (q_1206, .inl (cZ, 1600, .inl (fun _ => 0))), (q_1215, .inl (cZ, 3600, .inl (fun _ => 0))), (q_1244, .inl (cI, 16384, .inl (fun _ => 0)))] H := hP
  have hD : va_D A [(m0, .inr (7, [.int 0, .ref q_8, .int 8, .int 8, .int 0, .int 0, .ref q_1197, .ref q_1206, .int 0, .int 0, .int 0, .int 0, .int 0, .ref q_1215, .int 0, .int 0, .int (-1), .int (-1), .int (-1), .int (-1), .int 0, .ref q_1244, .null, .int 0, .int 0, .int 0, .int 0, .long 0, .long 0, .int 0, .int 0])), (q_8, .inl (cI, 188, .inl (sp_tabn 188))), (q_1197, .inl (cZ, 1600, .inl (fun _ => 0))), (q_1206, .inl (cZ, 1600, .inl (fun _ => 0))), (q_1215, .inl (cZ, 3600, .inl (fun _ => 0))), (q_1244, .inl (cI, 16384, .inl (fun _ => 0)))] := hD
  refine lv_aload_n hx hb dX8_init_1249 rfl (lv_at hl 0 rfl) ?_
  refine lv_sipush (v := 4200) hx hb dX8_init_1250 (by decide) ?_
  refine hw_newi 4200 0 hx hb (hts (.arrayClass .int) (by decide +kernel)) hK rfl hP hD hS hA (by decide +kernel) (by decide +kernel) (Nat.le_of_ble_eq_true rfl) (Nat.le_of_ble_eq_true rfl) (Nat.le_of_ble_eq_true rfl) dX8_init_1253 (fun q_1253 H hP hD hS => ?_)
  refine W.widen (k := 6) (n := 27572) (Nat.le_of_ble_eq_true rfl) (Nat.le_of_ble_eq_true rfl) ?_
  have hP : va_P (dC, dI) vwCl [(m0, .inr (7, [.int 0, .ref q_8, .int 8, .int 8, .int 0, .int 0, .ref q_1197, .ref q_1206, .int 0, .int 0, .int 0, .int 0, .int 0, .ref q_1215, .int 0, .int 0, .int (-1), .int (-1), .int (-1), .int (-1), .int 0, .ref q_1244, .null, .int 0, .int 0, .int 0, .int 0, .long 0, .long 0, .int 0, .int 0])), (q_8, .inl (cI, 188, .inl (sp_tabn 188))), (q_1197, .inl (cZ, 1600, .inl (fun _ => 0))), (q_1206, .inl (cZ, 1600, .inl (fun _ => 0))), (q_1215, .inl (cZ, 3600, .inl (fun _ => 0))), (q_1244, .inl (cI, 16384, .inl (fun _ => 0))), (q_1253, .inl (cI, 4200, .inl (fun _ => 0)))] H := hP
  have hD : va_D A [(m0, .inr (7, [.int 0, .ref q_8, .int 8, .int 8, .int 0, .int 0, .ref q_1197, .ref q_1206, .int 0, .int 0, .int 0, .int 0, .int 0, .ref q_1215, .int 0, .int 0, .int (-1), .int (-1), .int (-1), .int (-1), .int 0, .ref q_1244, .null, .int 0, .int 0, .int 0, .int 0, .long 0, .long 0, .int 0, .int 0])), (q_8, .inl (cI, 188, .inl (sp_tabn 188))), (q_1197, .inl (cZ, 1600, .inl (fun _ => 0))), (q_1206, .inl (cZ, 1600, .inl (fun _ => 0))), (q_1215, .inl (cZ, 3600, .inl (fun _ => 0))), (q_1244, .inl (cI, 16384, .inl (fun _ => 0))), (q_1253, .inl (cI, 4200, .inl (fun _ => 0)))] := hD
  refine va_putF (D := (dC, dI)) (ci := 7) (v := .ref q_1253) (ty := .array .int) (C := RX8) (T := TX8) (N := 31) hx hb hts hiX8 tyX8 tyX8_ok nmX8 hown hK hP hD hS 0 rfl rfl 22 (by decide) (hts (.fieldLink RX8 45 "RefineRegionsModel" "bytes" "[I") (by decide +kernel)) (fun _ h9 => h9) rfl hin rfl (by decide +kernel) rfl rfl (Nat.le_of_ble_eq_true rfl) dX8_init_1255 (fun H locs hP hD hS => ?_)
  have hP : va_P (dC, dI) vwCl [(m0, .inr (7, [.int 0, .ref q_8, .int 8, .int 8, .int 0, .int 0, .ref q_1197, .ref q_1206, .int 0, .int 0, .int 0, .int 0, .int 0, .ref q_1215, .int 0, .int 0, .int (-1), .int (-1), .int (-1), .int (-1), .int 0, .ref q_1244, .ref q_1253, .int 0, .int 0, .int 0, .int 0, .long 0, .long 0, .int 0, .int 0])), (q_8, .inl (cI, 188, .inl (sp_tabn 188))), (q_1197, .inl (cZ, 1600, .inl (fun _ => 0))), (q_1206, .inl (cZ, 1600, .inl (fun _ => 0))), (q_1215, .inl (cZ, 3600, .inl (fun _ => 0))), (q_1244, .inl (cI, 16384, .inl (fun _ => 0))), (q_1253, .inl (cI, 4200, .inl (fun _ => 0)))] H := hP
  have hD : va_D A [(m0, .inr (7, [.int 0, .ref q_8, .int 8, .int 8, .int 0, .int 0, .ref q_1197, .ref q_1206, .int 0, .int 0, .int 0, .int 0, .int 0, .ref q_1215, .int 0, .int 0, .int (-1), .int (-1), .int (-1), .int (-1), .int 0, .ref q_1244, .ref q_1253, .int 0, .int 0, .int 0, .int 0, .long 0, .long 0, .int 0, .int 0])), (q_8, .inl (cI, 188, .inl (sp_tabn 188))), (q_1197, .inl (cZ, 1600, .inl (fun _ => 0))), (q_1206, .inl (cZ, 1600, .inl (fun _ => 0))), (q_1215, .inl (cZ, 3600, .inl (fun _ => 0))), (q_1244, .inl (cI, 16384, .inl (fun _ => 0))), (q_1253, .inl (cI, 4200, .inl (fun _ => 0)))] := hD
  have hP9 : va_P (dC, dI) vwCl ((fun u : Nat → Nat => [(m0, .inr (7, [.int 0, .ref (u 1), .int (nI 8), .int (nI 8), .int 0, .int 0, .ref (u 2), .ref (u 3), .int 0, .int 0, .int 0, .int (nI 0), .int (nI 0), .ref (u 4), .int 0, .int 0, .int (-1), .int (-1), .int (-1), .int (-1), .int 0, .ref (u 5), .ref (u 6), .int (nI 0), .int (nI 0), .int (nI 0), .int (nI 0), .long 0, .long 0, .int 0, .int (nI 0)])), ((u 1), .inl (cI, 188, .inl (fun j => nI (sp_t j)))), ((u 2), .inl (cZ, 1600, .inl (fun _ => 0))), ((u 3), .inl (cZ, 1600, .inl (fun _ => 0))), ((u 4), .inl (cZ, 3600, .inl (fun _ => 0))), ((u 5), .inl (cI, 16384, .inl (sp_cat (fun _ => 0) (fun _ => 0)))), ((u 6), .inl (cI, 4200, .inl (fun _ => 0)))]) (fun i => [0, q_8, q_1197, q_1206, q_1215, q_1244, q_1253].getD i 0)) H := by
    have hP := hw_arr (p := 1) (g := fun j => nI (sp_t j)) rfl (fun j hj => sp_tabn_e hj) hP
    exact hw_arr (p := 5) (g := sp_cat (fun _ => 0) (fun _ => 0)) rfl (fun j _ => (sp_cat_00 j).symm) hP
  have hD9 : va_D A ((fun u : Nat → Nat => [(m0, .inr (7, [.int 0, .ref (u 1), .int (nI 8), .int (nI 8), .int 0, .int 0, .ref (u 2), .ref (u 3), .int 0, .int 0, .int 0, .int (nI 0), .int (nI 0), .ref (u 4), .int 0, .int 0, .int (-1), .int (-1), .int (-1), .int (-1), .int 0, .ref (u 5), .ref (u 6), .int (nI 0), .int (nI 0), .int (nI 0), .int (nI 0), .long 0, .long 0, .int 0, .int (nI 0)])), ((u 1), .inl (cI, 188, .inl (fun j => nI (sp_t j)))), ((u 2), .inl (cZ, 1600, .inl (fun _ => 0))), ((u 3), .inl (cZ, 1600, .inl (fun _ => 0))), ((u 4), .inl (cZ, 3600, .inl (fun _ => 0))), ((u 5), .inl (cI, 16384, .inl (sp_cat (fun _ => 0) (fun _ => 0)))), ((u 6), .inl (cI, 4200, .inl (fun _ => 0)))]) (fun i => [0, q_8, q_1197, q_1206, q_1215, q_1244, q_1253].getD i 0)) := by
    have hD := hw_arrD (p := 1) (g := fun j => nI (sp_t j)) rfl hD
    exact hw_arrD (p := 5) (g := sp_cat (fun _ => 0) (fun _ => 0)) rfl hD
  exact W.vret hx hb hr (fun t ht hW => ⟨⟨fun i => [0, q_8, q_1197, q_1206, q_1215, q_1244, q_1253].getD i 0, rfl, trivial, by rw [ht]; exact hP9, va_K.moved hW.alike hK, hD9⟩, hS.F ht⟩) hS.2.2 dX8_init_1258
