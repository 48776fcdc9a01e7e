/-! PURE: the reference's public methods: bounds, rows of a picture by one running number, a long's bytes -/
section SPMP
theorem sp_iw_lo {v lo hi : Int32} (h : sp_iw v lo hi = 1) : ¬ v < lo := fun q => by rw [sp_iw_0 (Or.inl q)] at h; exact absurd h (by decide)
theorem sp_iw_hi {v lo hi : Int32} (h : sp_iw v lo hi = 1) : ¬ hi < v := fun q => by rw [sp_iw_0 (Or.inr q)] at h; exact absurd h (by decide)
theorem sp_iw_f {v lo hi : Int32} (h : sp_iw v lo hi = 0) (h1 : ¬ v < lo) (h2 : ¬ hi < v) : False := by rw [sp_iw_1 h1 h2] at h; exact absurd h (by decide)
theorem sp_iw_2no {x y a b c d : Int32} (h : sp_iw x a b = 0 ∨ sp_iw y c d = 0) (h1 : ¬ x < a) (h2 : ¬ b < x) (h3 : ¬ y < c) (h4 : ¬ d < y) : False := h.elim (fun q => sp_iw_f q h1 h2) (fun q => sp_iw_f q h3 h4)
theorem sp_iw_3no {x y z a b c d e f : Int32} (h : sp_iw x a b = 0 ∨ sp_iw y c d = 0 ∨ sp_iw z e f = 0) (h1 : ¬ x < a) (h2 : ¬ b < x) (h3 : ¬ y < c) (h4 : ¬ d < y) (h5 : ¬ z < e) (h6 : ¬ f < z) : False := h.elim (fun q => sp_iw_f q h1 h2) (fun q => sp_iw_2no q h3 h4 h5 h6)
theorem sp_no_y {w h x y : Int32} (c : ¬ sp_ho w h x y = 0) : 1 - sp_ho w h x y = 0 := by
  rcases sp_ho_01 w h x y with q | q
  · exact absurd q c
  · rw [q]; decide
theorem sp_no_n {w h x y : Int32} (c : sp_ho w h x y = 0) : ¬ 1 - sp_ho w h x y = 0 := by rw [c]; decide
theorem sp_ho_f {w h x y : Int32} (c : sp_ho w h x y = 0) (h1 : ¬ x < 0) (h2 : ¬ w ≤ x) (h3 : ¬ y < 0) (h4 : ¬ h ≤ y) : False := by rw [sp_ho_in h1 h2 h3 h4] at c; exact absurd c (by decide)
theorem sp_cat_00 (j : Nat) : sp_cat (fun _ => 0) (fun _ => 0) j = 0 := by
  unfold sp_cat
  split <;> rfl
theorem sp_vo_ix2 {k : Nat} {i : Int32} (hk : k ≤ 4096) (h1 : ¬ i < 0) (h2 : ¬ nI k ≤ i) : vp_in i 4200 := fun q => sp_vo_ix hk h1 h2 (q.imp_right (fun z => by omega))
theorem sp_40 (y : Int32) : (40 : Int32) * y = y * nI 40 := Int32.mul_comm 40 y
theorem sp_60 (y : Int32) : (60 : Int32) * y = y * nI 60 := Int32.mul_comm 60 y
theorem nI_div {a b : Nat} (ha : a < 2 ^ 31) (hb : b < 2 ^ 31) : nI a / nI b = nI (a / b) := by
  apply Int32.toInt_inj.mp
  have h1 : a / b < 2 ^ 31 := Nat.lt_of_le_of_lt (Nat.div_le_self _ _) ha
  rw [Int32.toInt_div, nI_toInt ha, nI_toInt hb, nI_toInt h1, ← Int.ofNat_tdiv]
  generalize a / b = c at h1 ⊢
  exact Int.bmod_eq_of_le (by omega) (by omega)
theorem nI_rem {a b : Nat} (ha : a < 2 ^ 31) (hb : b < 2 ^ 31) : nI a - nI a / nI b * nI b = nI (a % b) := by
  rw [nI_div ha hb, pk_mul]
  have h := Nat.div_add_mod a b
  rw [Nat.mul_comm] at h
  have e : nI (a / b * b) + nI (a % b) = nI a := by rw [nI_add, h]
  rw [← e, Int32.add_comm, Int32.add_sub_cancel]
def sp_tkk (s : Nat → Nat → (Nat → Int32) → (Nat → Int32)) (w k : Nat) (g : Nat → Int32) : Nat → Int32 := sp_it (fun x => s x (k / w)) (k % w) (sp_it2 s w (k / w) g)
theorem sp_dm {w k : Nat} (hw : 0 < w) : (k % w + 1 < w ∧ (k + 1) / w = k / w ∧ (k + 1) % w = k % w + 1) ∨ (k % w + 1 = w ∧ (k + 1) / w = k / w + 1 ∧ (k + 1) % w = 0) := by
  have h := Nat.div_add_mod k w
  have hl := Nat.mod_lt k hw
  rcases Nat.lt_or_ge (k % w + 1) w with q | q
  · have e : k + 1 = w * (k / w) + (k % w + 1) := by omega
    refine Or.inl ⟨q, ?_, ?_⟩
    · rw [e, Nat.mul_add_div hw, Nat.div_eq_of_lt q]; rfl
    · rw [e, Nat.mul_add_mod, Nat.mod_eq_of_lt q]
  · have e1 : k % w + 1 = w := by omega
    have e : k + 1 = w * (k / w + 1) := by rw [Nat.mul_add, Nat.mul_one]; omega
    refine Or.inr ⟨e1, ?_, ?_⟩
    · rw [e, Nat.mul_div_cancel_left _ hw]
    · rw [e, Nat.mul_mod_right]
theorem sp_tkk_s {s : Nat → Nat → (Nat → Int32) → (Nat → Int32)} {w k : Nat} {g : Nat → Int32} (hw : 0 < w) : s (k % w) (k / w) (sp_tkk s w k g) = sp_tkk s w (k + 1) g := by
  unfold sp_tkk
  rcases sp_dm (k := k) hw with ⟨q1, q2, q3⟩ | ⟨q1, q2, q3⟩
  · rw [q2, q3]; rfl
  · rw [q2, q3]
    show _ = sp_it2 s w (k / w + 1) g
    rw [sp_it2]
    conv => rhs; rw [show sp_it (fun x => s x (k / w)) w (sp_it2 s w (k / w) g) = sp_it (fun x => s x (k / w)) (k % w + 1) (sp_it2 s w (k / w) g) from by rw [q1]]
    rfl
theorem sp_tkk_e {s : Nat → Nat → (Nat → Int32) → (Nat → Int32)} {w h : Nat} {g : Nat → Int32} (hw : 0 < w) : sp_tkk s w (w * h) g = sp_it2 s w h g := by
  unfold sp_tkk
  rw [Nat.mul_div_cancel_left _ hw, Nat.mul_mod_right]; rfl
theorem sp_tkk_0 {s : Nat → Nat → (Nat → Int32) → (Nat → Int32)} {w : Nat} {g : Nat → Int32} : sp_tkk s w 0 g = g := by
  unfold sp_tkk
  rw [Nat.zero_div, Nat.zero_mod]; rfl
def sp_ack (g : Nat → Nat → Int32) (w k : Nat) : Int32 := sp_acc (fun x => g x (k / w)) (k % w) (sp_acc2 g w (k / w) 0)
theorem sp_ack_s {g : Nat → Nat → Int32} {w k : Nat} (hw : 0 < w) : sp_ack g w k + g (k % w) (k / w) = sp_ack g w (k + 1) := by
  unfold sp_ack
  rcases sp_dm (k := k) hw with ⟨q1, q2, q3⟩ | ⟨q1, q2, q3⟩
  · rw [q2, q3]; rfl
  · rw [q2, q3]
    show _ = sp_acc2 g w (k / w + 1) 0
    rw [sp_acc2]
    conv => rhs; rw [show sp_acc (fun x => g x (k / w)) w (sp_acc2 g w (k / w) 0) = sp_acc (fun x => g x (k / w)) (k % w + 1) (sp_acc2 g w (k / w) 0) from by rw [q1]]
    rfl
theorem sp_ack_e {g : Nat → Nat → Int32} {w h : Nat} (hw : 0 < w) : sp_ack g w (w * h) = sp_acc2 g w h 0 := by
  unfold sp_ack
  rw [Nat.mul_div_cancel_left _ hw, Nat.mul_mod_right]; rfl
theorem sp_ack_0 {g : Nat → Nat → Int32} {w : Nat} : sp_ack g w 0 = 0 := by
  unfold sp_ack
  rw [Nat.zero_div, Nat.zero_mod]; rfl
theorem sp_xor_eq {a b : Int32} (h : a = b) : a ^^^ b = 0 := by rw [h]; exact Int32.xor_self
theorem sp_xor_ne {a b : Int32} (ha : a = 0 ∨ a = 1) (hb : b = 0 ∨ b = 1) (h : ¬ a = b) : a ^^^ b = 1 := by
  rcases ha with rfl | rfl <;> rcases hb with rfl | rfl
  · exact absurd rfl h
  · decide
  · decide
  · exact absurd rfl h
theorem sp_iw_ne {v lo hi : Int32} : ¬ sp_iw v lo hi = 0 ↔ ¬ v < lo ∧ ¬ hi < v := ⟨fun h => ⟨fun q => h (sp_iw_0 (Or.inl q)), fun q => h (sp_iw_0 (Or.inr q))⟩, fun h q => sp_iw_f q h.1 h.2⟩
theorem sp_pl0_iff {p q : Int32} : ¬ sp_pl0 p q = 0 ↔ (¬ p < -16 ∧ ¬ q < -16 ∧ ((q < 0 ∧ p ≤ 15) ∨ (q = 0 ∧ p ≤ -1))) := by
  have e0 : ((0 : Int32)).toInt = 0 := by decide
  have e1 : ((-16 : Int32)).toInt = -16 := by decide
  have e2 : ((-1 : Int32)).toInt = -1 := by decide
  have e3 : ((15 : Int32)).toInt = 15 := by decide
  have hx : ∀ P : Prop, [Decidable P] → (¬ (if P then (1 : Int32) else 0) = 0 ↔ P) := by
    intro P _
    by_cases h : P
    · rw [if_pos h]; exact ⟨fun _ => h, fun _ => by decide⟩
    · rw [if_neg h]; exact ⟨fun z => absurd rfl z, fun z => absurd z h⟩
  unfold sp_pl0
  by_cases hq : q = 0
  · rw [if_pos hq, sp_iw_ne]
    simp only [Int32.lt_iff_toInt_lt, Int32.le_iff_toInt_le, ← Int32.toInt_inj, e0, e1, e2, e3] at hq ⊢
    omega
  · rw [if_neg hq, hx, sp_iw_ne, sp_iw_ne]
    simp only [Int32.lt_iff_toInt_lt, Int32.le_iff_toInt_le, ← Int32.toInt_inj, e0, e1, e2, e3] at hq ⊢
    omega
theorem sp_pl1_iff {p q : Int32} : ¬ sp_pl1 p q = 0 ↔ (¬ p < -16 ∧ ¬ q < -16 ∧ p ≤ 15 ∧ q ≤ 15) := by
  have e1 : ((-16 : Int32)).toInt = -16 := by decide
  have e3 : ((15 : Int32)).toInt = 15 := by decide
  have hx : ∀ P : Prop, [Decidable P] → (¬ (if P then (1 : Int32) else 0) = 0 ↔ P) := by
    intro P _
    by_cases h : P
    · rw [if_pos h]; exact ⟨fun _ => h, fun _ => by decide⟩
    · rw [if_neg h]; exact ⟨fun z => absurd rfl z, fun z => absurd z h⟩
  unfold sp_pl1
  rw [hx, sp_iw_ne, sp_iw_ne]
  simp only [Int32.lt_iff_toInt_lt, Int32.le_iff_toInt_le, e1, e3]
  omega
theorem sp_fb_ref {v : Int64} {i : Nat} (hi : i < 8) : (v >>> (((8 : Int32) * nI i).toInt64 &&& 63) &&& 255).toInt32 = sp_fb v i := by
  unfold sp_fb
  rw [show (8 : Int32) = nI 8 from rfl, pk_mul, wb_c (8 * i) (by omega), wb_cu (8 * i) (by omega)]
  apply Int32.toBitVec_inj.mp
  rw [Int64.toBitVec_toInt32, Int64.toBitVec_and, Int64.toBitVec_shiftRight, wb_tb, wb_sm (8 * i) (by omega), Int32.toBitVec_and, Int64.toBitVec_toInt32]
  apply BitVec.eq_of_getLsbD_eq
  intro j hj
  have e : (UInt64.toInt64 (v.toUInt64 >>> UInt64.ofNat (8 * i))).toBitVec = v.toBitVec >>> (8 * i) := by
    show (v.toUInt64 >>> UInt64.ofNat (8 * i)).toBitVec = _
    rw [UInt64.toBitVec_shiftRight]
    apply BitVec.eq_of_toNat_eq
    show (v.toBitVec >>> ((BitVec.ofNat 64 (8 * i)) % 64)).toNat = _
    rw [BitVec.ushiftRight_eq', BitVec.toNat_umod, BitVec.toNat_ofNat]
    rw [show 8 * i % 2 ^ 64 % (64 : BitVec 64).toNat = 8 * i from by rw [show (64 : BitVec 64).toNat = 64 from rfl]; omega]
  rw [e]
  rw [BitVec.getLsbD_and, BitVec.getLsbD_signExtend, BitVec.getLsbD_signExtend, BitVec.getLsbD_and, BitVec.sshiftRight_eq']
  have e3 : (BitVec.ofNat 64 (8 * i)).toNat = 8 * i := by rw [BitVec.toNat_ofNat, Nat.mod_eq_of_lt (by omega)]
  rw [e3, BitVec.getLsbD_sshiftRight, BitVec.getLsbD_ushiftRight]
  have e4 : (255 : Int64).toBitVec.getLsbD j = decide (j < 8) := (by decide +kernel : ∀ j, j < 32 → (255 : Int64).toBitVec.getLsbD j = decide (j < 8)) j hj
  have e5 : (255 : Int32).toBitVec.getLsbD j = decide (j < 8) := (by decide +kernel : ∀ j, j < 32 → (255 : Int32).toBitVec.getLsbD j = decide (j < 8)) j hj
  rw [e4, e5]
  by_cases h8 : j < 8
  · simp [h8, hj, show j < 64 by omega, show 8 * i + j < 64 by omega, show ¬ 64 ≤ j by omega]
  · simp [h8, show j < 64 by omega]
theorem sp_8191 {z : Int32} (h : 8191 < z) : 8192 ≤ z := by
  rw [Int32.lt_iff_toInt_lt, show (8191 : Int32).toInt = 8191 from by decide] at h
  rw [Int32.le_iff_toInt_le, show (8192 : Int32).toInt = 8192 from by decide]
  omega
theorem sp_tk1 {w h x y : Nat} {g ff : Nat → Int32} (hx : x < w) (hy : y < h) (hw : w ≤ 40) (hh : h ≤ 40) : upd g ((60 : Int32) * nI y + nI x).toNatClampNeg (ff ((40 : Int32) * nI y + nI x).toNatClampNeg) = sp_pt (nI 60) (nI w) (nI h) g (nI x) (nI y) (sp_px (nI 40) (nI w) (nI h) ff (nI x) (nI y)) := by
  have hn : ¬ sp_ho (nI w) (nI h) (nI x) (nI y) = 0 := by
    rw [sp_ho_in (nI_pos (by omega)) (nI_ge hx (by omega)) (nI_pos (by omega)) (nI_ge hy (by omega))]; decide
  rw [sp_px_ho1 hn, sp_pt_in hn, sp_40, sp_60]
end SPMP
set_option maxHeartbeats 4000000 in
set_option maxRecDepth 100000 in
/-- thrown() -/
theorem c_X8_thrown (l : Launch) (dC : Nat → ClassId) (dI : Nat → Nat → Nat) (cI cZ cJ : ClassId) (m0 : Nat) (m1 : Nat) (m2 : Nat) (m3 : Nat) (m4 : Nat) (m5 : Nat) (m6 : Nat) (th : Int32) (tp : Int32) (ty : Int32) (sf : Int32) (rdg : Int32) (rt : Int32) (dx : Int32) (dy : Int32) (p0 : Int32) (q0 : Int32) (p1 : Int32) (q1 : Int32) (kp : Int32) (w : Nat) (h : Nat) (rwd : Nat) (rht : Nat) (k : Nat) (sk : Nat) (tr : Nat) (co : Nat) (b : Nat) (ma : Int64) (mc : Int64) (mt : Int32) : Met l yX8_thrown wsX8_thrown ({ frames := 0, cells := 0, slots := 0, locals := 0 }) (hw_Ro (dC, dI) vwCl (ty3 cI cZ cJ) [(m0, .inr (7, [.int th, .ref m1, .int (nI w), .int (nI h), .int tp, .int ty, .ref m2, .ref m3, .int sf, .int rdg, .int rt, .int (nI rwd), .int (nI rht), .ref m4, .int dx, .int dy, .int p0, .int q0, .int p1, .int q1, .int kp, .ref m5, .ref m6, .int (nI k), .int (nI sk), .int (nI tr), .int (nI co), .long ma, .long mc, .int mt, .int (nI b)]))] [.ref m0]) (vp_Si (fun r => r = th)) 0 0 (fun _ => False) := by
  refine Met.ofW (cc := cX8_thrown) (maxL := 1) (ret := (some .int)) (by decide) rfl ?_
  intro pg ev s m args below meth cd s₁ B hml hv
  obtain ⟨rfl, hP, hK, hN, hZ⟩ := hv
  have hx := B.exec
  have hb := B.bytes
  have hr := B.returns
  have hts := atoms_spec (ws := wsX8_thrown) B.pre
  have hown : s.vm.findClass RX8 = some m.cls := findClass_of_methodNamed B.named
  have hlocks := B.notSynchronized
  have hS : va_S (fun _ => False) s.heap s.heap [] := va_S.rf
  have hk : hw_K (dC, dI) vwCl (ty3 cI cZ cJ) (fun _ => False) s := ⟨hK, hN, hZ⟩
  have hiX8 : ∀ w ∈ u_ws RX8 TX8 31, w ∈ wsX8_thrown := by decide +kernel
  have hl := lv_entry ([.ref m0]) (n := 1) (Nat.le_of_ble_eq_true rfl)
  rw [lg_entry_eq]
  generalize (lg_sl ([.ref m0]) ++ List.replicate (1 - (lg_sl ([.ref m0])).length) Slot.unset).toArray = ls at hl ⊢
  have hl : lv_has ls 1 [(0, .ref m0)] := hl
  refine lv_aload_n hx hb dX8_thrown_0 rfl (lv_at hl 0 rfl) ?_
  refine va_get (D := (dC, dI)) (ci := 7) (v := .int th) (C := RX8) (T := TX8) (N := 31) hx hb hts hiX8 hown hK hP 0 rfl rfl 0 (by decide) (hts (.fieldLink RX8 48 "RefineRegionsModel" "thrown" "I") (by decide +kernel)) (fun _ h9 => h9) rfl dX8_thrown_1 ?_
  exact W.iret (v := th) hx hb hr (fun t ht hW => ⟨th, rfl, rfl, ht⟩) hS.2.2 dX8_thrown_4

set_option maxHeartbeats 4000000 in
set_option maxRecDepth 100000 in
/-- shape, where it is allowed -/
theorem c_X8_shape (l : Launch) (dC : Nat → ClassId) (dI : Nat → Nat → Nat) (cI cZ cJ : ClassId) (m0 : Nat) (m1 : Nat) (m2 : Nat) (m3 : Nat) (m4 : Nat) (m5 : Nat) (m6 : Nat) (th : Int32) (tp : Int32) (ty : Int32) (sf : Int32) (rdg : Int32) (rt : Int32) (dx : Int32) (dy : Int32) (p0 : Int32) (q0 : Int32) (p1 : Int32) (q1 : Int32) (kp : Int32) (w : Nat) (h : Nat) (rwd : Nat) (rht : Nat) (k : Nat) (sk : Nat) (tr : Nat) (co : Nat) (b : Nat) (ma : Int64) (mc : Int64) (mt : Int32) (pf : Nat → Int32) (SW : Nat → Nat) (SR : Nat → Nat) (w2 : Nat) (h2 : Nat) (t2 : Int32) (bb : Bool) (hw2 : 1 ≤ w2 ∧ w2 ≤ 40) (hh2 : 1 ≤ h2 ∧ h2 ≤ 40) (ht2 : sp_iw t2 0 1 = 1) (sz : Nat) : Met l yX8_shape wsX8_shape ({ frames := 0, cells := 0, slots := 0, locals := 0 }) (hw_Pre (dC, dI) vwCl (ty3 cI cZ cJ) [(m0, .inr (7, [.int th, .ref m1, .int (nI w), .int (nI h), .int tp, .int ty, .ref m2, .ref m3, .int sf, .int rdg, .int rt, .int (nI rwd), .int (nI rht), .ref m4, .int dx, .int dy, .int p0, .int q0, .int p1, .int q1, .int kp, .ref m5, .ref m6, .int (nI k), .int (nI sk), .int (nI tr), .int (nI co), .long ma, .long mc, .int mt, .int (nI b)])), (m2, .inl (cZ, 1600, .inl pf)), (m5, .inl (cI, 16384, .inl (sp_cat SW SR)))] sz [.ref m0, .int (nI w2), .int (nI h2), .int t2, .int (sp_z bb)]) (va_Qv (fun _ : Unit => True) (hw_at (dC, dI) vwCl (ty3 cI cZ cJ) (fun _ : Unit => [(m0, .inr (7, [.int 0, .ref m1, .int (nI w2), .int (nI h2), .int t2, .int (sp_z bb), .ref m2, .ref m3, .int 0, .int rdg, .int rt, .int (nI rwd), .int (nI rht), .ref m4, .int dx, .int dy, .int (-1), .int (-1), .int (-1), .int (-1), .int kp, .ref m5, .ref m6, .int (nI k), .int (nI sk), .int (nI tr), .int (nI co), .long ma, .long mc, .int mt, .int (nI b)])), (m2, .inl (cZ, 1600, .inl (fun _ => 0))), (m5, .inl (cI, 16384, .inl (sp_cat (fun _ => 0) (fun _ => 0))))]) (va_A [(m0, .inr (7, [.int th, .ref m1, .int (nI w), .int (nI h), .int tp, .int ty, .ref m2, .ref m3, .int sf, .int rdg, .int rt, .int (nI rwd), .int (nI rht), .ref m4, .int dx, .int dy, .int p0, .int q0, .int p1, .int q1, .int kp, .ref m5, .ref m6, .int (nI k), .int (nI sk), .int (nI tr), .int (nI co), .long ma, .long mc, .int mt, .int (nI b)])), (m2, .inl (cZ, 1600, .inl pf)), (m5, .inl (cI, 16384, .inl (sp_cat SW SR)))] sz)) (va_A [(m0, .inr (7, [.int th, .ref m1, .int (nI w), .int (nI h), .int tp, .int ty, .ref m2, .ref m3, .int sf, .int rdg, .int rt, .int (nI rwd), .int (nI rht), .ref m4, .int dx, .int dy, .int p0, .int q0, .int p1, .int q1, .int kp, .ref m5, .ref m6, .int (nI k), .int (nI sk), .int (nI tr), .int (nI co), .long ma, .long mc, .int mt, .int (nI b)])), (m2, .inl (cZ, 1600, .inl pf)), (m5, .inl (cI, 16384, .inl (sp_cat SW SR)))] sz)) 0 0 (va_A [(m0, .inr (7, [.int th, .ref m1, .int (nI w), .int (nI h), .int tp, .int ty, .ref m2, .ref m3, .int sf, .int rdg, .int rt, .int (nI rwd), .int (nI rht), .ref m4, .int dx, .int dy, .int p0, .int q0, .int p1, .int q1, .int kp, .ref m5, .ref m6, .int (nI k), .int (nI sk), .int (nI tr), .int (nI co), .long ma, .long mc, .int mt, .int (nI b)])), (m2, .inl (cZ, 1600, .inl pf)), (m5, .inl (cI, 16384, .inl (sp_cat SW SR)))] sz) := by
  refine Met.ofW (cc := cX8_shape) (maxL := 6) (ret := none) (by decide) rfl ?_
  intro pg ev s m args below meth cd s₁ B hml hv
  obtain ⟨rfl, hsz, hP, hK, hN, hZ, hD0⟩ := hv
  have hx := B.exec
  have hb := B.bytes
  have hr := B.returns
  have hts := atoms_spec (ws := wsX8_shape) B.pre
  have hown : s.vm.findClass RX8 = some m.cls := findClass_of_methodNamed B.named
  have hlocks := B.notSynchronized
  subst hsz
  have hD := hD0.self (sz := s.heap.size)
  generalize hAe : va_A [(m0, .inr (7, [.int th, .ref m1, .int (nI w), .int (nI h), .int tp, .int ty, .ref m2, .ref m3, .int sf, .int rdg, .int rt, .int (nI rwd), .int (nI rht), .ref m4, .int dx, .int dy, .int p0, .int q0, .int p1, .int q1, .int kp, .ref m5, .ref m6, .int (nI k), .int (nI sk), .int (nI tr), .int (nI co), .long ma, .long mc, .int mt, .int (nI b)])), (m2, .inl (cZ, 1600, .inl pf)), (m5, .inl (cI, 16384, .inl (sp_cat SW SR)))] s.heap.size = A at hD hZ ⊢
  have hA : ∀ q : Nat, s.heap.size ≤ q → A q := fun q h => by rw [← hAe]; exact Or.inr h
  have hS : va_S A s.heap s.heap [] := va_S.rf
  have hk : hw_K (dC, dI) vwCl (ty3 cI cZ cJ) A s := ⟨hK, hN, hZ⟩
  have hiX8 : ∀ w ∈ u_ws RX8 TX8 31, w ∈ wsX8_shape := by decide +kernel
  have hl := lv_entry ([.ref m0, .int (nI w2), .int (nI h2), .int t2, .int (sp_z bb)]) (n := 6) (Nat.le_of_ble_eq_true rfl)
  rw [lg_entry_eq]
  generalize (lg_sl ([.ref m0, .int (nI w2), .int (nI h2), .int t2, .int (sp_z bb)]) ++ List.replicate (6 - (lg_sl ([.ref m0, .int (nI w2), .int (nI h2), .int t2, .int (sp_z bb)])).length) Slot.unset).toArray = ls at hl ⊢
  have hl : lv_has ls 6 [(0, .ref m0), (1, .int (nI w2)), (2, .int (nI h2)), (3, .int t2), (4, .int (sp_z bb))] := hl
  refine lv_aload_n hx hb dX8_shape_0 rfl (lv_at hl 0 rfl) ?_
  refine lv_iload_n hx hb dX8_shape_1 rfl (lv_at hl 1 rfl) ?_
  refine lv_iconst (v := 1) hx hb dX8_shape_2 (by decide) ?_
  refine lv_icmp_lt (tgt := 32) hx hb dX8_shape_3 (by decide) (fun c_3 => absurd c_3 (nI_nlt hw2.1 (by omega))) (fun c_3 => ?_)
  refine lv_iload_n hx hb dX8_shape_6 rfl (lv_at hl 1 rfl) ?_
  refine lv_bipush (v := 40) hx hb dX8_shape_7 (by decide) ?_
  refine lv_icmp_gt (tgt := 32) hx hb dX8_shape_9 (by decide) (fun c_9 => absurd c_9 (nI_nlt hw2.2 (by decide))) (fun c_9 => ?_)
  refine lv_iload_n hx hb dX8_shape_12 rfl (lv_at hl 2 rfl) ?_
  refine lv_iconst (v := 1) hx hb dX8_shape_13 (by decide) ?_
  refine lv_icmp_lt (tgt := 32) hx hb dX8_shape_14 (by decide) (fun c_14 => absurd c_14 (nI_nlt hh2.1 (by omega))) (fun c_14 => ?_)
  refine lv_iload_n hx hb dX8_shape_17 rfl (lv_at hl 2 rfl) ?_
  refine lv_bipush (v := 40) hx hb dX8_shape_18 (by decide) ?_
  refine lv_icmp_gt (tgt := 32) hx hb dX8_shape_20 (by decide) (fun c_20 => absurd c_20 (nI_nlt hh2.2 (by decide))) (fun c_20 => ?_)
  refine lv_iload_n hx hb dX8_shape_23 rfl (lv_at hl 3 rfl) ?_
  refine lv_if_lt (tgt := 32) hx hb dX8_shape_24 (by decide) (fun c_24 => absurd c_24 (sp_iw_lo ht2)) (fun c_24 => ?_)
  refine lv_iload_n hx hb dX8_shape_27 rfl (lv_at hl 3 rfl) ?_
  refine lv_iconst (v := 1) hx hb dX8_shape_28 (by decide) ?_
  refine lv_icmp_le (tgt := 36) hx hb dX8_shape_29 (by decide) (fun c_29 => ?_) (fun c_29 => absurd (Int32.not_lt.mp (sp_iw_hi ht2)) c_29)
  refine lv_iconst (v := 0) hx hb dX8_shape_36 (by decide) ?_
  refine va_put (D := (dC, dI)) (ci := 7) (v := .int 0) (ty := .int) (C := RX8) (T := TX8) (N := 31) hx hb hts hiX8 tyX8 tyX8_ok nmX8 hown hK hP hD hS 0 rfl rfl 0 (by decide) (hts (.fieldLink RX8 48 "RefineRegionsModel" "thrown" "I") (by decide +kernel)) (fun _ h9 => h9) rfl (by decide +kernel) rfl rfl (Nat.le_of_ble_eq_true rfl) dX8_shape_37 (fun H locs hP hD hS => ?_)
  have hP : va_P (dC, dI) vwCl [(m0, .inr (7, [.int 0, .ref m1, .int (nI w), .int (nI h), .int tp, .int ty, .ref m2, .ref m3, .int sf, .int rdg, .int rt, .int (nI rwd), .int (nI rht), .ref m4, .int dx, .int dy, .int p0, .int q0, .int p1, .int q1, .int kp, .ref m5, .ref m6, .int (nI k), .int (nI sk), .int (nI tr), .int (nI co), .long ma, .long mc, .int mt, .int (nI b)])), (m2, .inl (cZ, 1600, .inl pf)), (m5, .inl (cI, 16384, .inl (sp_cat SW SR)))] H := hP
  have hD : va_D A [(m0, .inr (7, [.int 0, .ref m1, .int (nI w), .int (nI h), .int tp, .int ty, .ref m2, .ref m3, .int sf, .int rdg, .int rt, .int (nI rwd), .int (nI rht), .ref m4, .int dx, .int dy, .int p0, .int q0, .int p1, .int q1, .int kp, .ref m5, .ref m6, .int (nI k), .int (nI sk), .int (nI tr), .int (nI co), .long ma, .long mc, .int mt, .int (nI b)])), (m2, .inl (cZ, 1600, .inl pf)), (m5, .inl (cI, 16384, .inl (sp_cat SW SR)))] := hD
  refine lv_aload_n hx hb dX8_shape_40 rfl (lv_at hl 0 rfl) ?_
  refine va_get (D := (dC, dI)) (ci := 7) (v := .int 0) (C := RX8) (T := TX8) (N := 31) hx hb hts hiX8 hown hK hP 0 rfl rfl 0 (by decide) (hts (.fieldLink RX8 48 "RefineRegionsModel" "thrown" "I") (by decide +kernel)) (fun _ h9 => h9) rfl dX8_shape_41 ?_
  refine lv_if_le (tgt := 48) hx hb dX8_shape_44 (by decide) (fun _ => ?_) (fun c9 => absurd (by decide) c9)
  refine lv_aload_n hx hb dX8_shape_48 rfl (lv_at hl 0 rfl) ?_
  refine lv_iload_n hx hb dX8_shape_49 rfl (lv_at hl 1 rfl) ?_
  refine va_put (D := (dC, dI)) (ci := 7) (v := .int (nI w2)) (ty := .int) (C := RX8) (T := TX8) (N := 31) hx hb hts hiX8 tyX8 tyX8_ok nmX8 hown hK hP hD hS 0 rfl rfl 2 (by decide) (hts (.fieldLink RX8 13 "RefineRegionsModel" "width" "I") (by decide +kernel)) (fun _ h9 => h9) rfl (by decide +kernel) rfl rfl (Nat.le_of_ble_eq_true rfl) dX8_shape_50 (fun H locs hP hD hS => ?_)
  have hP : va_P (dC, dI) vwCl [(m0, .inr (7, [.int 0, .ref m1, .int (nI w2), .int (nI h), .int tp, .int ty, .ref m2, .ref m3, .int sf, .int rdg, .int rt, .int (nI rwd), .int (nI rht), .ref m4, .int dx, .int dy, .int p0, .int q0, .int p1, .int q1, .int kp, .ref m5, .ref m6, .int (nI k), .int (nI sk), .int (nI tr), .int (nI co), .long ma, .long mc, .int mt, .int (nI b)])), (m2, .inl (cZ, 1600, .inl pf)), (m5, .inl (cI, 16384, .inl (sp_cat SW SR)))] H := hP
  have hD : va_D A [(m0, .inr (7, [.int 0, .ref m1, .int (nI w2), .int (nI h), .int tp, .int ty, .ref m2, .ref m3, .int sf, .int rdg, .int rt, .int (nI rwd), .int (nI rht), .ref m4, .int dx, .int dy, .int p0, .int q0, .int p1, .int q1, .int kp, .ref m5, .ref m6, .int (nI k), .int (nI sk), .int (nI tr), .int (nI co), .long ma, .long mc, .int mt, .int (nI b)])), (m2, .inl (cZ, 1600, .inl pf)), (m5, .inl (cI, 16384, .inl (sp_cat SW SR)))] := hD
  refine lv_aload_n hx hb dX8_shape_53 rfl (lv_at hl 0 rfl) ?_
  refine lv_iload_n hx hb dX8_shape_54 rfl (lv_at hl 2 rfl) ?_
  refine va_put (D := (dC, dI)) (ci := 7) (v := .int (nI h2)) (ty := .int) (C := RX8) (T := TX8) (N := 31) hx hb hts hiX8 tyX8 tyX8_ok nmX8 hown hK hP hD hS 0 rfl rfl 3 (by decide) (hts (.fieldLink RX8 17 "RefineRegionsModel" "height" "I") (by decide +kernel)) (fun _ h9 => h9) rfl (by decide +kernel) rfl rfl (Nat.le_of_ble_eq_true rfl) dX8_shape_55 (fun H locs hP hD hS => ?_)
  have hP : va_P (dC, dI) vwCl [(m0, .inr (7, [.int 0, .ref m1, .int (nI w2), .int (nI h2), .int tp, .int ty, .ref m2, .ref m3, .int sf, .int rdg, .int rt, .int (nI rwd), .int (nI rht), .ref m4, .int dx, .int dy, .int p0, .int q0, .int p1, .int q1, .int kp, .ref m5, .ref m6, .int (nI k), .int (nI sk), .int (nI tr), .int (nI co), .long ma, .long mc, .int mt, .int (nI b)])), (m2, .inl (cZ, 1600, .inl pf)), (m5, .inl (cI, 16384, .inl (sp_cat SW SR)))] H := hP
  have hD : va_D A [(m0, .inr (7, [.int 0, .ref m1, .int (nI w2), .int (nI h2), .int tp, .int ty, .ref m2, .ref m3, .int sf, .int rdg, .int rt, .int (nI rwd), .int (nI rht), .ref m4, .int dx, .int dy, .int p0, .int q0, .int p1, .int q1, .int kp, .ref m5, .ref m6, .int (nI k), .int (nI sk), .int (nI tr), .int (nI co), .long ma, .long mc, .int mt, .int (nI b)])), (m2, .inl (cZ, 1600, .inl pf)), (m5, .inl (cI, 16384, .inl (sp_cat SW SR)))] := hD
  refine lv_aload_n hx hb dX8_shape_58 rfl (lv_at hl 0 rfl) ?_
  refine lv_iload_n hx hb dX8_shape_59 rfl (lv_at hl 3 rfl) ?_
  refine va_put (D := (dC, dI)) (ci := 7) (v := .int t2) (ty := .int) (C := RX8) (T := TX8) (N := 31) hx hb hts hiX8 tyX8 tyX8_ok nmX8 hown hK hP hD hS 0 rfl rfl 4 (by decide) (hts (.fieldLink RX8 51 "RefineRegionsModel" "template" "I") (by decide +kernel)) (fun _ h9 => h9) rfl (by decide +kernel) rfl rfl (Nat.le_of_ble_eq_true rfl) dX8_shape_60 (fun H locs hP hD hS => ?_)
  have hP : va_P (dC, dI) vwCl [(m0, .inr (7, [.int 0, .ref m1, .int (nI w2), .int (nI h2), .int t2, .int ty, .ref m2, .ref m3, .int sf, .int rdg, .int rt, .int (nI rwd), .int (nI rht), .ref m4, .int dx, .int dy, .int p0, .int q0, .int p1, .int q1, .int kp, .ref m5, .ref m6, .int (nI k), .int (nI sk), .int (nI tr), .int (nI co), .long ma, .long mc, .int mt, .int (nI b)])), (m2, .inl (cZ, 1600, .inl pf)), (m5, .inl (cI, 16384, .inl (sp_cat SW SR)))] H := hP
  have hD : va_D A [(m0, .inr (7, [.int 0, .ref m1, .int (nI w2), .int (nI h2), .int t2, .int ty, .ref m2, .ref m3, .int sf, .int rdg, .int rt, .int (nI rwd), .int (nI rht), .ref m4, .int dx, .int dy, .int p0, .int q0, .int p1, .int q1, .int kp, .ref m5, .ref m6, .int (nI k), .int (nI sk), .int (nI tr), .int (nI co), .long ma, .long mc, .int mt, .int (nI b)])), (m2, .inl (cZ, 1600, .inl pf)), (m5, .inl (cI, 16384, .inl (sp_cat SW SR)))] := hD
  refine lv_aload_n hx hb dX8_shape_63 rfl (lv_at hl 0 rfl) ?_
  refine lv_iload hx hb dX8_shape_64 (lv_at hl 4 rfl) ?_
  refine va_put (D := (dC, dI)) (ci := 7) (v := .int (sp_z bb)) (ty := .boolean) (C := RX8) (T := TX8) (N := 31) hx hb hts hiX8 tyX8 tyX8_ok nmX8 hown hK hP hD hS 0 rfl rfl 5 (by decide) (hts (.fieldLink RX8 54 "RefineRegionsModel" "typical" "Z") (by decide +kernel)) (fun _ h9 => h9) rfl (by decide +kernel) (hw_z (sp_z_01 _)) (hw_f (sp_z_01 _)) (Nat.le_of_ble_eq_true rfl) dX8_shape_66 (fun H locs hP hD hS => ?_)
  have hP : va_P (dC, dI) vwCl [(m0, .inr (7, [.int 0, .ref m1, .int (nI w2), .int (nI h2), .int t2, .int (sp_z bb), .ref m2, .ref m3, .int sf, .int rdg, .int rt, .int (nI rwd), .int (nI rht), .ref m4, .int dx, .int dy, .int p0, .int q0, .int p1, .int q1, .int kp, .ref m5, .ref m6, .int (nI k), .int (nI sk), .int (nI tr), .int (nI co), .long ma, .long mc, .int mt, .int (nI b)])), (m2, .inl (cZ, 1600, .inl pf)), (m5, .inl (cI, 16384, .inl (sp_cat SW SR)))] H := hP
  have hD : va_D A [(m0, .inr (7, [.int 0, .ref m1, .int (nI w2), .int (nI h2), .int t2, .int (sp_z bb), .ref m2, .ref m3, .int sf, .int rdg, .int rt, .int (nI rwd), .int (nI rht), .ref m4, .int dx, .int dy, .int p0, .int q0, .int p1, .int q1, .int kp, .ref m5, .ref m6, .int (nI k), .int (nI sk), .int (nI tr), .int (nI co), .long ma, .long mc, .int mt, .int (nI b)])), (m2, .inl (cZ, 1600, .inl pf)), (m5, .inl (cI, 16384, .inl (sp_cat SW SR)))] := hD
  refine lv_iconst (v := 0) hx hb dX8_shape_69 (by decide) ?_
  refine lv_istore (lv' := [(5, .int 0), (0, .ref m0), (1, .int (nI w2)), (2, .int (nI h2)), (3, .int t2), (4, .int (sp_z bb))]) hx hb dX8_shape_70 hl (by decide) rfl (fun ls hl => ?_)
  have loop_72 : ∀ (fu : Nat) (i : Nat) (g : Nat → Int32), (i ≤ 1600) → (∀ j, j < i → g j = 0) → (1600 - i < fu) → ∀ (H : Heap) (locs : List Loc), va_P (dC, dI) vwCl [(m0, .inr (7, [.int 0, .ref m1, .int (nI w2), .int (nI h2), .int t2, .int (sp_z bb), .ref m2, .ref m3, .int sf, .int rdg, .int rt, .int (nI rwd), .int (nI rht), .ref m4, .int dx, .int dy, .int p0, .int q0, .int p1, .int q1, .int kp, .ref m5, .ref m6, .int (nI k), .int (nI sk), .int (nI tr), .int (nI co), .long ma, .long mc, .int mt, .int (nI b)])), (m2, .inl (cZ, 1600, .inl g)), (m5, .inl (cI, 16384, .inl (sp_cat SW SR)))] H → va_D A [(m0, .inr (7, [.int 0, .ref m1, .int (nI w2), .int (nI h2), .int t2, .int (sp_z bb), .ref m2, .ref m3, .int sf, .int rdg, .int rt, .int (nI rwd), .int (nI rht), .ref m4, .int dx, .int dy, .int p0, .int q0, .int p1, .int q1, .int kp, .ref m5, .ref m6, .int (nI k), .int (nI sk), .int (nI tr), .int (nI co), .long ma, .long mc, .int mt, .int (nI b)])), (m2, .inl (cZ, 1600, .inl g)), (m5, .inl (cI, 16384, .inl (sp_cat SW SR)))] → va_S A s.heap H locs → ∀ ls : Array Slot, lv_has ls 6 [(5, .int (nI i)), (0, .ref m0), (1, .int (nI w2)), (2, .int (nI h2)), (3, .int t2), (4, .int (sp_z bb))] → W pg l ev (headSpec wsX8_shape ({ frames := 0, cells := 0, slots := 0, locals := 0 })).room s m ([.ref m0, .int (nI w2), .int (nI h2), .int t2, .int (sp_z bb)]).toArray below meth cd H locs 0 0 (MQ below (va_Qv (fun _ : Unit => True) (hw_at (dC, dI) vwCl (ty3 cI cZ cJ) (fun _ : Unit => [(m0, .inr (7, [.int 0, .ref m1, .int (nI w2), .int (nI h2), .int t2, .int (sp_z bb), .ref m2, .ref m3, .int 0, .int rdg, .int rt, .int (nI rwd), .int (nI rht), .ref m4, .int dx, .int dy, .int (-1), .int (-1), .int (-1), .int (-1), .int kp, .ref m5, .ref m6, .int (nI k), .int (nI sk), .int (nI tr), .int (nI co), .long ma, .long mc, .int mt, .int (nI b)])), (m2, .inl (cZ, 1600, .inl (fun _ => 0))), (m5, .inl (cI, 16384, .inl (sp_cat (fun _ => 0) (fun _ => 0))))]) A) A) ([.ref m0, .int (nI w2), .int (nI h2), .int t2, .int (sp_z bb)]).toArray s 0 0 A) (F0 m 72 ls []) := by
    intro fu
    induction fu with
    | zero =>
      intro i g hi hg hm
      omega
    | succ fu ih_72 =>
      intro i g hi hg hm H locs hP hD hS ls hl
      refine lv_iload hx hb dX8_shape_72 (lv_at hl 0 rfl) ?_
      refine lv_sipush (v := 1600) hx hb dX8_shape_74 (by decide) ?_
      refine lv_icmp_ge (tgt := 94) hx hb dX8_shape_77 (by decide) (fun c_77 => ?_) (fun c_77 => ?_)
      · have hP : va_P (dC, dI) vwCl [(m0, .inr (7, [.int 0, .ref m1, .int (nI w2), .int (nI h2), .int t2, .int (sp_z bb), .ref m2, .ref m3, .int sf, .int rdg, .int rt, .int (nI rwd), .int (nI rht), .ref m4, .int dx, .int dy, .int p0, .int q0, .int p1, .int q1, .int kp, .ref m5, .ref m6, .int (nI k), .int (nI sk), .int (nI tr), .int (nI co), .long ma, .long mc, .int mt, .int (nI b)])), (m2, .inl (cZ, 1600, .inl (fun _ => 0))), (m5, .inl (cI, 16384, .inl (sp_cat SW SR)))] H := hw_arr (p := 1) (g := fun _ => 0) rfl (fun j hj => hg j (by rw [show (1600 : Int32) = nI 1600 from rfl, nI_leI (by omega) (by omega)] at c_77; omega)) hP
        have hD : va_D A [(m0, .inr (7, [.int 0, .ref m1, .int (nI w2), .int (nI h2), .int t2, .int (sp_z bb), .ref m2, .ref m3, .int sf, .int rdg, .int rt, .int (nI rwd), .int (nI rht), .ref m4, .int dx, .int dy, .int p0, .int q0, .int p1, .int q1, .int kp, .ref m5, .ref m6, .int (nI k), .int (nI sk), .int (nI tr), .int (nI co), .long ma, .long mc, .int mt, .int (nI b)])), (m2, .inl (cZ, 1600, .inl (fun _ => 0))), (m5, .inl (cI, 16384, .inl (sp_cat SW SR)))] := hw_arrD (p := 1) (g := fun _ => 0) rfl hD
        refine lv_aload_n hx hb dX8_shape_94 rfl (lv_at hl 1 rfl) ?_
        refine lv_iconst (v := 0) hx hb dX8_shape_95 (by decide) ?_
        refine va_put (D := (dC, dI)) (ci := 7) (v := .int 0) (ty := .boolean) (C := RX8) (T := TX8) (N := 31) hx hb hts hiX8 tyX8 tyX8_ok nmX8 hown hK hP hD hS 0 rfl rfl 8 (by decide) (hts (.fieldLink RX8 58 "RefineRegionsModel" "wasRead" "Z") (by decide +kernel)) (fun _ h9 => h9) rfl (by decide +kernel) (by decide +kernel) rfl (Nat.le_of_ble_eq_true rfl) dX8_shape_96 (fun H locs hP hD hS => ?_)
        have hP : va_P (dC, dI) vwCl [(m0, .inr (7, [.int 0, .ref m1, .int (nI w2), .int (nI h2), .int t2, .int (sp_z bb), .ref m2, .ref m3, .int 0, .int rdg, .int rt, .int (nI rwd), .int (nI rht), .ref m4, .int dx, .int dy, .int p0, .int q0, .int p1, .int q1, .int kp, .ref m5, .ref m6, .int (nI k), .int (nI sk), .int (nI tr), .int (nI co), .long ma, .long mc, .int mt, .int (nI b)])), (m2, .inl (cZ, 1600, .inl (fun _ => 0))), (m5, .inl (cI, 16384, .inl (sp_cat SW SR)))] H := hP
        have hD : va_D A [(m0, .inr (7, [.int 0, .ref m1, .int (nI w2), .int (nI h2), .int t2, .int (sp_z bb), .ref m2, .ref m3, .int 0, .int rdg, .int rt, .int (nI rwd), .int (nI rht), .ref m4, .int dx, .int dy, .int p0, .int q0, .int p1, .int q1, .int kp, .ref m5, .ref m6, .int (nI k), .int (nI sk), .int (nI tr), .int (nI co), .long ma, .long mc, .int mt, .int (nI b)])), (m2, .inl (cZ, 1600, .inl (fun _ => 0))), (m5, .inl (cI, 16384, .inl (sp_cat SW SR)))] := hD
        refine lv_aload_n hx hb dX8_shape_99 rfl (lv_at hl 1 rfl) ?_
        refine lv_iconst (v := (-1)) hx hb dX8_shape_100 (by decide) ?_
        refine va_put (D := (dC, dI)) (ci := 7) (v := .int (-1)) (ty := .int) (C := RX8) (T := TX8) (N := 31) hx hb hts hiX8 tyX8 tyX8_ok nmX8 hown hK hP hD hS 0 rfl rfl 16 (by decide) (hts (.fieldLink RX8 30 "RefineRegionsModel" "p0" "I") (by decide +kernel)) (fun _ h9 => h9) rfl (by decide +kernel) rfl rfl (Nat.le_of_ble_eq_true rfl) dX8_shape_101 (fun H locs hP hD hS => ?_)
        have hP : va_P (dC, dI) vwCl [(m0, .inr (7, [.int 0, .ref m1, .int (nI w2), .int (nI h2), .int t2, .int (sp_z bb), .ref m2, .ref m3, .int 0, .int rdg, .int rt, .int (nI rwd), .int (nI rht), .ref m4, .int dx, .int dy, .int (-1), .int q0, .int p1, .int q1, .int kp, .ref m5, .ref m6, .int (nI k), .int (nI sk), .int (nI tr), .int (nI co), .long ma, .long mc, .int mt, .int (nI b)])), (m2, .inl (cZ, 1600, .inl (fun _ => 0))), (m5, .inl (cI, 16384, .inl (sp_cat SW SR)))] H := hP
        have hD : va_D A [(m0, .inr (7, [.int 0, .ref m1, .int (nI w2), .int (nI h2), .int t2, .int (sp_z bb), .ref m2, .ref m3, .int 0, .int rdg, .int rt, .int (nI rwd), .int (nI rht), .ref m4, .int dx, .int dy, .int (-1), .int q0, .int p1, .int q1, .int kp, .ref m5, .ref m6, .int (nI k), .int (nI sk), .int (nI tr), .int (nI co), .long ma, .long mc, .int mt, .int (nI b)])), (m2, .inl (cZ, 1600, .inl (fun _ => 0))), (m5, .inl (cI, 16384, .inl (sp_cat SW SR)))] := hD
        refine lv_aload_n hx hb dX8_shape_104 rfl (lv_at hl 1 rfl) ?_
        refine lv_iconst (v := (-1)) hx hb dX8_shape_105 (by decide) ?_
        refine va_put (D := (dC, dI)) (ci := 7) (v := .int (-1)) (ty := .int) (C := RX8) (T := TX8) (N := 31) hx hb hts hiX8 tyX8 tyX8_ok nmX8 hown hK hP hD hS 0 rfl rfl 17 (by decide) (hts (.fieldLink RX8 33 "RefineRegionsModel" "q0" "I") (by decide +kernel)) (fun _ h9 => h9) rfl (by decide +kernel) rfl rfl (Nat.le_of_ble_eq_true rfl) dX8_shape_106 (fun H locs hP hD hS => ?_)
        have hP : va_P (dC, dI) vwCl [(m0, .inr (7, [.int 0, .ref m1, .int (nI w2), .int (nI h2), .int t2, .int (sp_z bb), .ref m2, .ref m3, .int 0, .int rdg, .int rt, .int (nI rwd), .int (nI rht), .ref m4, .int dx, .int dy, .int (-1), .int (-1), .int p1, .int q1, .int kp, .ref m5, .ref m6, .int (nI k), .int (nI sk), .int (nI tr), .int (nI co), .long ma, .long mc, .int mt, .int (nI b)])), (m2, .inl (cZ, 1600, .inl (fun _ => 0))), (m5, .inl (cI, 16384, .inl (sp_cat SW SR)))] H := hP
        have hD : va_D A [(m0, .inr (7, [.int 0, .ref m1, .int (nI w2), .int (nI h2), .int t2, .int (sp_z bb), .ref m2, .ref m3, .int 0, .int rdg, .int rt, .int (nI rwd), .int (nI rht), .ref m4, .int dx, .int dy, .int (-1), .int (-1), .int p1, .int q1, .int kp, .ref m5, .ref m6, .int (nI k), .int (nI sk), .int (nI tr), .int (nI co), .long ma, .long mc, .int mt, .int (nI b)])), (m2, .inl (cZ, 1600, .inl (fun _ => 0))), (m5, .inl (cI, 16384, .inl (sp_cat SW SR)))] := hD
        refine lv_aload_n hx hb dX8_shape_109 rfl (lv_at hl 1 rfl) ?_
        refine lv_iconst (v := (-1)) hx hb dX8_shape_110 (by decide) ?_
        refine va_put (D := (dC, dI)) (ci := 7) (v := .int (-1)) (ty := .int) (C := RX8) (T := TX8) (N := 31) hx hb hts hiX8 tyX8 tyX8_ok nmX8 hown hK hP hD hS 0 rfl rfl 18 (by decide) (hts (.fieldLink RX8 36 "RefineRegionsModel" "p1" "I") (by decide +kernel)) (fun _ h9 => h9) rfl (by decide +kernel) rfl rfl (Nat.le_of_ble_eq_true rfl) dX8_shape_111 (fun H locs hP hD hS => ?_)
        have hP : va_P (dC, dI) vwCl [(m0, .inr (7, [.int 0, .ref m1, .int (nI w2), .int (nI h2), .int t2, .int (sp_z bb), .ref m2, .ref m3, .int 0, .int rdg, .int rt, .int (nI rwd), .int (nI rht), .ref m4, .int dx, .int dy, .int (-1), .int (-1), .int (-1), .int q1, .int kp, .ref m5, .ref m6, .int (nI k), .int (nI sk), .int (nI tr), .int (nI co), .long ma, .long mc, .int mt, .int (nI b)])), (m2, .inl (cZ, 1600, .inl (fun _ => 0))), (m5, .inl (cI, 16384, .inl (sp_cat SW SR)))] H := hP
        have hD : va_D A [(m0, .inr (7, [.int 0, .ref m1, .int (nI w2), .int (nI h2), .int t2, .int (sp_z bb), .ref m2, .ref m3, .int 0, .int rdg, .int rt, .int (nI rwd), .int (nI rht), .ref m4, .int dx, .int dy, .int (-1), .int (-1), .int (-1), .int q1, .int kp, .ref m5, .ref m6, .int (nI k), .int (nI sk), .int (nI tr), .int (nI co), .long ma, .long mc, .int mt, .int (nI b)])), (m2, .inl (cZ, 1600, .inl (fun _ => 0))), (m5, .inl (cI, 16384, .inl (sp_cat SW SR)))] := hD
        refine lv_aload_n hx hb dX8_shape_114 rfl (lv_at hl 1 rfl) ?_
        refine lv_iconst (v := (-1)) hx hb dX8_shape_115 (by decide) ?_
        refine va_put (D := (dC, dI)) (ci := 7) (v := .int (-1)) (ty := .int) (C := RX8) (T := TX8) (N := 31) hx hb hts hiX8 tyX8 tyX8_ok nmX8 hown hK hP hD hS 0 rfl rfl 19 (by decide) (hts (.fieldLink RX8 39 "RefineRegionsModel" "q1" "I") (by decide +kernel)) (fun _ h9 => h9) rfl (by decide +kernel) rfl rfl (Nat.le_of_ble_eq_true rfl) dX8_shape_116 (fun H locs hP hD hS => ?_)
        have hP : va_P (dC, dI) vwCl [(m0, .inr (7, [.int 0, .ref m1, .int (nI w2), .int (nI h2), .int t2, .int (sp_z bb), .ref m2, .ref m3, .int 0, .int rdg, .int rt, .int (nI rwd), .int (nI rht), .ref m4, .int dx, .int dy, .int (-1), .int (-1), .int (-1), .int (-1), .int kp, .ref m5, .ref m6, .int (nI k), .int (nI sk), .int (nI tr), .int (nI co), .long ma, .long mc, .int mt, .int (nI b)])), (m2, .inl (cZ, 1600, .inl (fun _ => 0))), (m5, .inl (cI, 16384, .inl (sp_cat SW SR)))] H := hP
        have hD : va_D A [(m0, .inr (7, [.int 0, .ref m1, .int (nI w2), .int (nI h2), .int t2, .int (sp_z bb), .ref m2, .ref m3, .int 0, .int rdg, .int rt, .int (nI rwd), .int (nI rht), .ref m4, .int dx, .int dy, .int (-1), .int (-1), .int (-1), .int (-1), .int kp, .ref m5, .ref m6, .int (nI k), .int (nI sk), .int (nI tr), .int (nI co), .long ma, .long mc, .int mt, .int (nI b)])), (m2, .inl (cZ, 1600, .inl (fun _ => 0))), (m5, .inl (cI, 16384, .inl (sp_cat SW SR)))] := hD
        refine lv_iconst (v := 0) hx hb dX8_shape_119 (by decide) ?_
        refine lv_istore (lv' := [(5, .int 0), (0, .ref m0), (1, .int (nI w2)), (2, .int (nI h2)), (3, .int t2), (4, .int (sp_z bb))]) hx hb dX8_shape_120 hl (by decide) rfl (fun ls hl => ?_)
        have loop_122 : ∀ (fu : Nat) (i : Nat) (g : Nat → Int32), (i ≤ 16384) → (∀ j, j < i → g j = 0) → (16384 - i < fu) → ∀ (H : Heap) (locs : List Loc), va_P (dC, dI) vwCl [(m0, .inr (7, [.int 0, .ref m1, .int (nI w2), .int (nI h2), .int t2, .int (sp_z bb), .ref m2, .ref m3, .int 0, .int rdg, .int rt, .int (nI rwd), .int (nI rht), .ref m4, .int dx, .int dy, .int (-1), .int (-1), .int (-1), .int (-1), .int kp, .ref m5, .ref m6, .int (nI k), .int (nI sk), .int (nI tr), .int (nI co), .long ma, .long mc, .int mt, .int (nI b)])), (m2, .inl (cZ, 1600, .inl (fun _ => 0))), (m5, .inl (cI, 16384, .inl g))] H → va_D A [(m0, .inr (7, [.int 0, .ref m1, .int (nI w2), .int (nI h2), .int t2, .int (sp_z bb), .ref m2, .ref m3, .int 0, .int rdg, .int rt, .int (nI rwd), .int (nI rht), .ref m4, .int dx, .int dy, .int (-1), .int (-1), .int (-1), .int (-1), .int kp, .ref m5, .ref m6, .int (nI k), .int (nI sk), .int (nI tr), .int (nI co), .long ma, .long mc, .int mt, .int (nI b)])), (m2, .inl (cZ, 1600, .inl (fun _ => 0))), (m5, .inl (cI, 16384, .inl g))] → va_S A s.heap H locs → ∀ ls : Array Slot, lv_has ls 6 [(5, .int (nI i)), (0, .ref m0), (1, .int (nI w2)), (2, .int (nI h2)), (3, .int t2), (4, .int (sp_z bb))] → W pg l ev (headSpec wsX8_shape ({ frames := 0, cells := 0, slots := 0, locals := 0 })).room s m ([.ref m0, .int (nI w2), .int (nI h2), .int t2, .int (sp_z bb)]).toArray below meth cd H locs 0 0 (MQ below (va_Qv (fun _ : Unit => True) (hw_at (dC, dI) vwCl (ty3 cI cZ cJ) (fun _ : Unit => [(m0, .inr (7, [.int 0, .ref m1, .int (nI w2), .int (nI h2), .int t2, .int (sp_z bb), .ref m2, .ref m3, .int 0, .int rdg, .int rt, .int (nI rwd), .int (nI rht), .ref m4, .int dx, .int dy, .int (-1), .int (-1), .int (-1), .int (-1), .int kp, .ref m5, .ref m6, .int (nI k), .int (nI sk), .int (nI tr), .int (nI co), .long ma, .long mc, .int mt, .int (nI b)])), (m2, .inl (cZ, 1600, .inl (fun _ => 0))), (m5, .inl (cI, 16384, .inl (sp_cat (fun _ => 0) (fun _ => 0))))]) A) A) ([.ref m0, .int (nI w2), .int (nI h2), .int t2, .int (sp_z bb)]).toArray s 0 0 A) (F0 m 122 ls []) := by
          intro fu
          induction fu with
          | zero =>
            intro i g hi hg hm
            omega
          | succ fu ih_122 =>
            intro i g hi hg hm H locs hP hD hS ls hl
            refine lv_iload hx hb dX8_shape_122 (lv_at hl 0 rfl) ?_
            refine lv_sipush (v := 16384) hx hb dX8_shape_124 (by decide) ?_
            refine lv_icmp_ge (tgt := 144) hx hb dX8_shape_127 (by decide) (fun c_127 => ?_) (fun c_127 => ?_)
            · have hP : va_P (dC, dI) vwCl [(m0, .inr (7, [.int 0, .ref m1, .int (nI w2), .int (nI h2), .int t2, .int (sp_z bb), .ref m2, .ref m3, .int 0, .int rdg, .int rt, .int (nI rwd), .int (nI rht), .ref m4, .int dx, .int dy, .int (-1), .int (-1), .int (-1), .int (-1), .int kp, .ref m5, .ref m6, .int (nI k), .int (nI sk), .int (nI tr), .int (nI co), .long ma, .long mc, .int mt, .int (nI b)])), (m2, .inl (cZ, 1600, .inl (fun _ => 0))), (m5, .inl (cI, 16384, .inl (sp_cat (fun _ => 0) (fun _ => 0))))] H := hw_arr (p := 2) (g := sp_cat (fun _ => 0) (fun _ => 0)) rfl (fun j hj => (hg j (by rw [show (16384 : Int32) = nI 16384 from rfl, nI_leI (by omega) (by omega)] at c_127; omega)).trans (sp_cat_00 j).symm) hP
              have hD : va_D A [(m0, .inr (7, [.int 0, .ref m1, .int (nI w2), .int (nI h2), .int t2, .int (sp_z bb), .ref m2, .ref m3, .int 0, .int rdg, .int rt, .int (nI rwd), .int (nI rht), .ref m4, .int dx, .int dy, .int (-1), .int (-1), .int (-1), .int (-1), .int kp, .ref m5, .ref m6, .int (nI k), .int (nI sk), .int (nI tr), .int (nI co), .long ma, .long mc, .int mt, .int (nI b)])), (m2, .inl (cZ, 1600, .inl (fun _ => 0))), (m5, .inl (cI, 16384, .inl (sp_cat (fun _ => 0) (fun _ => 0))))] := hw_arrD (p := 2) (g := sp_cat (fun _ => 0) (fun _ => 0)) rfl hD
              have hP9 := hP
              have hD9 := hD
              exact W.vret hx hb hr (fun t ht hW => ⟨⟨(), rfl, trivial, by rw [ht]; exact hP9, va_K.moved hW.alike hK, hD9⟩, hS.F ht⟩) hS.2.2 dX8_shape_144
            · have hi5 : i < 16384 := by rw [show (16384 : Int32) = nI 16384 from rfl, nI_leI (by omega) (by omega)] at c_127; omega
              refine lv_aload_n hx hb dX8_shape_130 rfl (lv_at hl 1 rfl) ?_
              refine va_get (D := (dC, dI)) (ci := 7) (v := .ref m5) (C := RX8) (T := TX8) (N := 31) hx hb hts hiX8 hown hK hP 0 rfl rfl 21 (by decide) (hts (.fieldLink RX8 42 "RefineRegionsModel" "states" "[I") (by decide +kernel)) (fun _ h9 => h9) rfl dX8_shape_131 ?_
              refine lv_iload hx hb dX8_shape_134 (lv_at hl 0 rfl) ?_
              refine lv_iconst (v := 0) hx hb dX8_shape_136 (by decide) ?_
              refine va_iast hx hb hK hP hD hS 2 0 rfl rfl (vp_in_nI hi5 (by decide)) dX8_shape_137 (fun H locs hP hD hS => ?_)
              have hP : va_P (dC, dI) vwCl [(m0, .inr (7, [.int 0, .ref m1, .int (nI w2), .int (nI h2), .int t2, .int (sp_z bb), .ref m2, .ref m3, .int 0, .int rdg, .int rt, .int (nI rwd), .int (nI rht), .ref m4, .int dx, .int dy, .int (-1), .int (-1), .int (-1), .int (-1), .int kp, .ref m5, .ref m6, .int (nI k), .int (nI sk), .int (nI tr), .int (nI co), .long ma, .long mc, .int mt, .int (nI b)])), (m2, .inl (cZ, 1600, .inl (fun _ => 0))), (m5, .inl (cI, 16384, .inl (upd g (nI i).toNatClampNeg 0)))] H := hP
              have hD : va_D A [(m0, .inr (7, [.int 0, .ref m1, .int (nI w2), .int (nI h2), .int t2, .int (sp_z bb), .ref m2, .ref m3, .int 0, .int rdg, .int rt, .int (nI rwd), .int (nI rht), .ref m4, .int dx, .int dy, .int (-1), .int (-1), .int (-1), .int (-1), .int kp, .ref m5, .ref m6, .int (nI k), .int (nI sk), .int (nI tr), .int (nI co), .long ma, .long mc, .int mt, .int (nI b)])), (m2, .inl (cZ, 1600, .inl (fun _ => 0))), (m5, .inl (cI, 16384, .inl (upd g (nI i).toNatClampNeg 0)))] := hD
              refine lv_iinc (v := nI (i + 1)) (lv' := [(5, .int (nI (i + 1))), (0, .ref m0), (1, .int (nI w2)), (2, .int (nI h2)), (3, .int t2), (4, .int (sp_z bb))]) hx hb dX8_shape_138 hl (k := 0) rfl (nI_1 i) (by decide) rfl (fun ls hl => ?_)
              refine lv_goto (tgt := 122) hx hb dX8_shape_141 (by decide) ?_
              exact ih_122 (i + 1) (upd g (nI i).toNatClampNeg 0) (by omega) (sp_fill hg (by omega)) (by omega) _ _ hP hD hS ls (lv_sub hl [0, 1, 2, 3, 4, 5] rfl)
        exact loop_122 (16384 + 1) 0 (sp_cat SW SR) (Nat.zero_le _) (fun j h => absurd h (Nat.not_lt_zero j)) (by omega) _ _ hP hD hS ls (lv_sub hl [0, 1, 2, 3, 4, 5] rfl)
      · have hi5 : i < 1600 := by rw [show (1600 : Int32) = nI 1600 from rfl, nI_leI (by omega) (by omega)] at c_77; omega
        refine lv_aload_n hx hb dX8_shape_80 rfl (lv_at hl 1 rfl) ?_
        refine va_get (D := (dC, dI)) (ci := 7) (v := .ref m2) (C := RX8) (T := TX8) (N := 31) hx hb hts hiX8 hown hK hP 0 rfl rfl 6 (by decide) (hts (.fieldLink RX8 20 "RefineRegionsModel" "picture" "[Z") (by decide +kernel)) (fun _ h9 => h9) rfl dX8_shape_81 ?_
        refine lv_iload hx hb dX8_shape_84 (lv_at hl 0 rfl) ?_
        refine lv_iconst (v := 0) hx hb dX8_shape_86 (by decide) ?_
        refine va_zast hx hb hK hP hD hS 1 1 rfl rfl (vp_in_nI hi5 (by decide)) dX8_shape_87 (fun H locs hP hD hS => ?_)
        have eA : upd g (nI i).toNatClampNeg (vp_nar .boolean 0) = upd g (nI i).toNatClampNeg 0 := by rw [hw_nar (Or.inl rfl)]
        rw [eA] at hP hD
        have hP : va_P (dC, dI) vwCl [(m0, .inr (7, [.int 0, .ref m1, .int (nI w2), .int (nI h2), .int t2, .int (sp_z bb), .ref m2, .ref m3, .int sf, .int rdg, .int rt, .int (nI rwd), .int (nI rht), .ref m4, .int dx, .int dy, .int p0, .int q0, .int p1, .int q1, .int kp, .ref m5, .ref m6, .int (nI k), .int (nI sk), .int (nI tr), .int (nI co), .long ma, .long mc, .int mt, .int (nI b)])), (m2, .inl (cZ, 1600, .inl (upd g (nI i).toNatClampNeg 0))), (m5, .inl (cI, 16384, .inl (sp_cat SW SR)))] H := hP
        have hD : va_D A [(m0, .inr (7, [.int 0, .ref m1, .int (nI w2), .int (nI h2), .int t2, .int (sp_z bb), .ref m2, .ref m3, .int sf, .int rdg, .int rt, .int (nI rwd), .int (nI rht), .ref m4, .int dx, .int dy, .int p0, .int q0, .int p1, .int q1, .int kp, .ref m5, .ref m6, .int (nI k), .int (nI sk), .int (nI tr), .int (nI co), .long ma, .long mc, .int mt, .int (nI b)])), (m2, .inl (cZ, 1600, .inl (upd g (nI i).toNatClampNeg 0))), (m5, .inl (cI, 16384, .inl (sp_cat SW SR)))] := hD
        refine lv_iinc (v := nI (i + 1)) (lv' := [(5, .int (nI (i + 1))), (0, .ref m0), (1, .int (nI w2)), (2, .int (nI h2)), (3, .int t2), (4, .int (sp_z bb))]) hx hb dX8_shape_88 hl (k := 0) rfl (nI_1 i) (by decide) rfl (fun ls hl => ?_)
        refine lv_goto (tgt := 72) hx hb dX8_shape_91 (by decide) ?_
        exact ih_72 (i + 1) (upd g (nI i).toNatClampNeg 0) (by omega) (sp_fill hg (by omega)) (by omega) _ _ hP hD hS ls (lv_sub hl [0, 1, 2, 3, 4, 5] rfl)
  exact loop_72 (1600 + 1) 0 pf (Nat.zero_le _) (fun j h => absurd h (Nat.not_lt_zero j)) (by omega) _ _ hP hD hS ls (lv_sub hl [0, 1, 2, 3, 4, 5] rfl)

set_option maxHeartbeats 4000000 in
set_option maxRecDepth 100000 in
/-- shape, refused -/
theorem c_X8_shape_no (l : Launch) (dC : Nat → ClassId) (dI : Nat → Nat → Nat) (cI cZ cJ : ClassId) (m0 : Nat) (m1 : Nat) (m2 : Nat) (m3 : Nat) (m4 : Nat) (m5 : Nat) (m6 : Nat) (th : Int32) (tp : Int32) (ty : Int32) (sf : Int32) (rdg : Int32) (rt : Int32) (dx : Int32) (dy : Int32) (p0 : Int32) (q0 : Int32) (p1 : Int32) (q1 : Int32) (kp : Int32) (w : Nat) (h : Nat) (rwd : Nat) (rht : Nat) (k : Nat) (sk : Nat) (tr : Nat) (co : Nat) (b : Nat) (ma : Int64) (mc : Int64) (mt : Int32) (x : Int32) (y : Int32) (z : Int32) (bb : Bool) (hno : sp_iw x 1 40 = 0 ∨ sp_iw y 1 40 = 0 ∨ sp_iw z 0 1 = 0) (sz : Nat) : Met l yX8_shape wsX8_shape ({ frames := 0, cells := 0, slots := 0, locals := 0 }) (hw_Pre (dC, dI) vwCl (ty3 cI cZ cJ) [(m0, .inr (7, [.int th, .ref m1, .int (nI w), .int (nI h), .int tp, .int ty, .ref m2, .ref m3, .int sf, .int rdg, .int rt, .int (nI rwd), .int (nI rht), .ref m4, .int dx, .int dy, .int p0, .int q0, .int p1, .int q1, .int kp, .ref m5, .ref m6, .int (nI k), .int (nI sk), .int (nI tr), .int (nI co), .long ma, .long mc, .int mt, .int (nI b)]))] sz [.ref m0, .int x, .int y, .int z, .int (sp_z bb)]) (va_Qv (fun _ : Unit => True) (hw_at (dC, dI) vwCl (ty3 cI cZ cJ) (fun _ : Unit => [(m0, .inr (7, [.int 1, .ref m1, .int (nI w), .int (nI h), .int tp, .int ty, .ref m2, .ref m3, .int sf, .int rdg, .int rt, .int (nI rwd), .int (nI rht), .ref m4, .int dx, .int dy, .int p0, .int q0, .int p1, .int q1, .int kp, .ref m5, .ref m6, .int (nI k), .int (nI sk), .int (nI tr), .int (nI co), .long ma, .long mc, .int mt, .int (nI b)]))]) (va_A [(m0, .inr (7, [.int th, .ref m1, .int (nI w), .int (nI h), .int tp, .int ty, .ref m2, .ref m3, .int sf, .int rdg, .int rt, .int (nI rwd), .int (nI rht), .ref m4, .int dx, .int dy, .int p0, .int q0, .int p1, .int q1, .int kp, .ref m5, .ref m6, .int (nI k), .int (nI sk), .int (nI tr), .int (nI co), .long ma, .long mc, .int mt, .int (nI b)]))] sz)) (va_A [(m0, .inr (7, [.int th, .ref m1, .int (nI w), .int (nI h), .int tp, .int ty, .ref m2, .ref m3, .int sf, .int rdg, .int rt, .int (nI rwd), .int (nI rht), .ref m4, .int dx, .int dy, .int p0, .int q0, .int p1, .int q1, .int kp, .ref m5, .ref m6, .int (nI k), .int (nI sk), .int (nI tr), .int (nI co), .long ma, .long mc, .int mt, .int (nI b)]))] sz)) 0 0 (va_A [(m0, .inr (7, [.int th, .ref m1, .int (nI w), .int (nI h), .int tp, .int ty, .ref m2, .ref m3, .int sf, .int rdg, .int rt, .int (nI rwd), .int (nI rht), .ref m4, .int dx, .int dy, .int p0, .int q0, .int p1, .int q1, .int kp, .ref m5, .ref m6, .int (nI k), .int (nI sk), .int (nI tr), .int (nI co), .long ma, .long mc, .int mt, .int (nI b)]))] sz) := by
  refine Met.ofW (cc := cX8_shape) (maxL := 6) (ret := none) (by decide) rfl ?_
  intro pg ev s m args below meth cd s₁ B hml hv
  obtain ⟨rfl, hsz, hP, hK, hN, hZ, hD0⟩ := hv
  have hx := B.exec
  have hb := B.bytes
  have hr := B.returns
  have hts := atoms_spec (ws := wsX8_shape) B.pre
  have hown : s.vm.findClass RX8 = some m.cls := findClass_of_methodNamed B.named
  have hlocks := B.notSynchronized
  subst hsz
  have hD := hD0.self (sz := s.heap.size)
  generalize hAe : va_A [(m0, .inr (7, [.int th, .ref m1, .int (nI w), .int (nI h), .int tp, .int ty, .ref m2, .ref m3, .int sf, .int rdg, .int rt, .int (nI rwd), .int (nI rht), .ref m4, .int dx, .int dy, .int p0, .int q0, .int p1, .int q1, .int kp, .ref m5, .ref m6, .int (nI k), .int (nI sk), .int (nI tr), .int (nI co), .long ma, .long mc, .int mt, .int (nI b)]))] s.heap.size = A at hD hZ ⊢
  have hA : ∀ q : Nat, s.heap.size ≤ q → A q := fun q h => by rw [← hAe]; exact Or.inr h
  have hS : va_S A s.heap s.heap [] := va_S.rf
  have hk : hw_K (dC, dI) vwCl (ty3 cI cZ cJ) A s := ⟨hK, hN, hZ⟩
  have hiX8 : ∀ w ∈ u_ws RX8 TX8 31, w ∈ wsX8_shape := by decide +kernel
  have hl := lv_entry ([.ref m0, .int x, .int y, .int z, .int (sp_z bb)]) (n := 6) (Nat.le_of_ble_eq_true rfl)
  rw [lg_entry_eq]
  generalize (lg_sl ([.ref m0, .int x, .int y, .int z, .int (sp_z bb)]) ++ List.replicate (6 - (lg_sl ([.ref m0, .int x, .int y, .int z, .int (sp_z bb)])).length) Slot.unset).toArray = ls at hl ⊢
  have hl : lv_has ls 6 [(0, .ref m0), (1, .int x), (2, .int y), (3, .int z), (4, .int (sp_z bb))] := hl
  refine lv_aload_n hx hb dX8_shape_0 rfl (lv_at hl 0 rfl) ?_
  refine lv_iload_n hx hb dX8_shape_1 rfl (lv_at hl 1 rfl) ?_
  refine lv_iconst (v := 1) hx hb dX8_shape_2 (by decide) ?_
  refine lv_icmp_lt (tgt := 32) hx hb dX8_shape_3 (by decide) (fun c_3 => ?_) (fun c_3 => ?_)
  · refine lv_iconst (v := 1) hx hb dX8_shape_32 (by decide) ?_
    refine lv_goto (tgt := 37) hx hb dX8_shape_33 (by decide) ?_
    refine va_put (D := (dC, dI)) (ci := 7) (v := .int 1) (ty := .int) (C := RX8) (T := TX8) (N := 31) hx hb hts hiX8 tyX8 tyX8_ok nmX8 hown hK hP hD hS 0 rfl rfl 0 (by decide) (hts (.fieldLink RX8 48 "RefineRegionsModel" "thrown" "I") (by decide +kernel)) (fun _ h9 => h9) rfl (by decide +kernel) rfl rfl (Nat.le_of_ble_eq_true rfl) dX8_shape_37 (fun H locs hP hD hS => ?_)
    have hP : va_P (dC, dI) vwCl [(m0, .inr (7, [.int 1, .ref m1, .int (nI w), .int (nI h), .int tp, .int ty, .ref m2, .ref m3, .int sf, .int rdg, .int rt, .int (nI rwd), .int (nI rht), .ref m4, .int dx, .int dy, .int p0, .int q0, .int p1, .int q1, .int kp, .ref m5, .ref m6, .int (nI k), .int (nI sk), .int (nI tr), .int (nI co), .long ma, .long mc, .int mt, .int (nI b)]))] H := hP
    have hD : va_D A [(m0, .inr (7, [.int 1, .ref m1, .int (nI w), .int (nI h), .int tp, .int ty, .ref m2, .ref m3, .int sf, .int rdg, .int rt, .int (nI rwd), .int (nI rht), .ref m4, .int dx, .int dy, .int p0, .int q0, .int p1, .int q1, .int kp, .ref m5, .ref m6, .int (nI k), .int (nI sk), .int (nI tr), .int (nI co), .long ma, .long mc, .int mt, .int (nI b)]))] := hD
    refine lv_aload_n hx hb dX8_shape_40 rfl (lv_at hl 0 rfl) ?_
    refine va_get (D := (dC, dI)) (ci := 7) (v := .int 1) (C := RX8) (T := TX8) (N := 31) hx hb hts hiX8 hown hK hP 0 rfl rfl 0 (by decide) (hts (.fieldLink RX8 48 "RefineRegionsModel" "thrown" "I") (by decide +kernel)) (fun _ h9 => h9) rfl dX8_shape_41 ?_
    refine lv_if_le (tgt := 48) hx hb dX8_shape_44 (by decide) (fun c9 => absurd c9 (by decide)) (fun _ => ?_)
    have hP9 := hP
    have hD9 := hD
    exact W.vret hx hb hr (fun t ht hW => ⟨⟨(), rfl, trivial, by rw [ht]; exact hP9, va_K.moved hW.alike hK, hD9⟩, hS.F ht⟩) hS.2.2 dX8_shape_47
  · refine lv_iload_n hx hb dX8_shape_6 rfl (lv_at hl 1 rfl) ?_
    refine lv_bipush (v := 40) hx hb dX8_shape_7 (by decide) ?_
    refine lv_icmp_gt (tgt := 32) hx hb dX8_shape_9 (by decide) (fun c_9 => ?_) (fun c_9 => ?_)
    · refine lv_iconst (v := 1) hx hb dX8_shape_32 (by decide) ?_
      refine lv_goto (tgt := 37) hx hb dX8_shape_33 (by decide) ?_
      refine va_put (D := (dC, dI)) (ci := 7) (v := .int 1) (ty := .int) (C := RX8) (T := TX8) (N := 31) hx hb hts hiX8 tyX8 tyX8_ok nmX8 hown hK hP hD hS 0 rfl rfl 0 (by decide) (hts (.fieldLink RX8 48 "RefineRegionsModel" "thrown" "I") (by decide +kernel)) (fun _ h9 => h9) rfl (by decide +kernel) rfl rfl (Nat.le_of_ble_eq_true rfl) dX8_shape_37 (fun H locs hP hD hS => ?_)
      have hP : va_P (dC, dI) vwCl [(m0, .inr (7, [.int 1, .ref m1, .int (nI w), .int (nI h), .int tp, .int ty, .ref m2, .ref m3, .int sf, .int rdg, .int rt, .int (nI rwd), .int (nI rht), .ref m4, .int dx, .int dy, .int p0, .int q0, .int p1, .int q1, .int kp, .ref m5, .ref m6, .int (nI k), .int (nI sk), .int (nI tr), .int (nI co), .long ma, .long mc, .int mt, .int (nI b)]))] H := hP
      have hD : va_D A [(m0, .inr (7, [.int 1, .ref m1, .int (nI w), .int (nI h), .int tp, .int ty, .ref m2, .ref m3, .int sf, .int rdg, .int rt, .int (nI rwd), .int (nI rht), .ref m4, .int dx, .int dy, .int p0, .int q0, .int p1, .int q1, .int kp, .ref m5, .ref m6, .int (nI k), .int (nI sk), .int (nI tr), .int (nI co), .long ma, .long mc, .int mt, .int (nI b)]))] := hD
      refine lv_aload_n hx hb dX8_shape_40 rfl (lv_at hl 0 rfl) ?_
      refine va_get (D := (dC, dI)) (ci := 7) (v := .int 1) (C := RX8) (T := TX8) (N := 31) hx hb hts hiX8 hown hK hP 0 rfl rfl 0 (by decide) (hts (.fieldLink RX8 48 "RefineRegionsModel" "thrown" "I") (by decide +kernel)) (fun _ h9 => h9) rfl dX8_shape_41 ?_
      refine lv_if_le (tgt := 48) hx hb dX8_shape_44 (by decide) (fun c9 => absurd c9 (by decide)) (fun _ => ?_)
      have hP9 := hP
      have hD9 := hD
      exact W.vret hx hb hr (fun t ht hW => ⟨⟨(), rfl, trivial, by rw [ht]; exact hP9, va_K.moved hW.alike hK, hD9⟩, hS.F ht⟩) hS.2.2 dX8_shape_47
    · refine lv_iload_n hx hb dX8_shape_12 rfl (lv_at hl 2 rfl) ?_
      refine lv_iconst (v := 1) hx hb dX8_shape_13 (by decide) ?_
      refine lv_icmp_lt (tgt := 32) hx hb dX8_shape_14 (by decide) (fun c_14 => ?_) (fun c_14 => ?_)
      · refine lv_iconst (v := 1) hx hb dX8_shape_32 (by decide) ?_
        refine lv_goto (tgt := 37) hx hb dX8_shape_33 (by decide) ?_
        refine va_put (D := (dC, dI)) (ci := 7) (v := .int 1) (ty := .int) (C := RX8) (T := TX8) (N := 31) hx hb hts hiX8 tyX8 tyX8_ok nmX8 hown hK hP hD hS 0 rfl rfl 0 (by decide) (hts (.fieldLink RX8 48 "RefineRegionsModel" "thrown" "I") (by decide +kernel)) (fun _ h9 => h9) rfl (by decide +kernel) rfl rfl (Nat.le_of_ble_eq_true rfl) dX8_shape_37 (fun H locs hP hD hS => ?_)
        have hP : va_P (dC, dI) vwCl [(m0, .inr (7, [.int 1, .ref m1, .int (nI w), .int (nI h), .int tp, .int ty, .ref m2, .ref m3, .int sf, .int rdg, .int rt, .int (nI rwd), .int (nI rht), .ref m4, .int dx, .int dy, .int p0, .int q0, .int p1, .int q1, .int kp, .ref m5, .ref m6, .int (nI k), .int (nI sk), .int (nI tr), .int (nI co), .long ma, .long mc, .int mt, .int (nI b)]))] H := hP
        have hD : va_D A [(m0, .inr (7, [.int 1, .ref m1, .int (nI w), .int (nI h), .int tp, .int ty, .ref m2, .ref m3, .int sf, .int rdg, .int rt, .int (nI rwd), .int (nI rht), .ref m4, .int dx, .int dy, .int p0, .int q0, .int p1, .int q1, .int kp, .ref m5, .ref m6, .int (nI k), .int (nI sk), .int (nI tr), .int (nI co), .long ma, .long mc, .int mt, .int (nI b)]))] := hD
        refine lv_aload_n hx hb dX8_shape_40 rfl (lv_at hl 0 rfl) ?_
        refine va_get (D := (dC, dI)) (ci := 7) (v := .int 1) (C := RX8) (T := TX8) (N := 31) hx hb hts hiX8 hown hK hP 0 rfl rfl 0 (by decide) (hts (.fieldLink RX8 48 "RefineRegionsModel" "thrown" "I") (by decide +kernel)) (fun _ h9 => h9) rfl dX8_shape_41 ?_
        refine lv_if_le (tgt := 48) hx hb dX8_shape_44 (by decide) (fun c9 => absurd c9 (by decide)) (fun _ => ?_)
        have hP9 := hP
        have hD9 := hD
        exact W.vret hx hb hr (fun t ht hW => ⟨⟨(), rfl, trivial, by rw [ht]; exact hP9, va_K.moved hW.alike hK, hD9⟩, hS.F ht⟩) hS.2.2 dX8_shape_47
      · refine lv_iload_n hx hb dX8_shape_17 rfl (lv_at hl 2 rfl) ?_
        refine lv_bipush (v := 40) hx hb dX8_shape_18 (by decide) ?_
        refine lv_icmp_gt (tgt := 32) hx hb dX8_shape_20 (by decide) (fun c_20 => ?_) (fun c_20 => ?_)
        · refine lv_iconst (v := 1) hx hb dX8_shape_32 (by decide) ?_
          refine lv_goto (tgt := 37) hx hb dX8_shape_33 (by decide) ?_
          refine va_put (D := (dC, dI)) (ci := 7) (v := .int 1) (ty := .int) (C := RX8) (T := TX8) (N := 31) hx hb hts hiX8 tyX8 tyX8_ok nmX8 hown hK hP hD hS 0 rfl rfl 0 (by decide) (hts (.fieldLink RX8 48 "RefineRegionsModel" "thrown" "I") (by decide +kernel)) (fun _ h9 => h9) rfl (by decide +kernel) rfl rfl (Nat.le_of_ble_eq_true rfl) dX8_shape_37 (fun H locs hP hD hS => ?_)
          have hP : va_P (dC, dI) vwCl [(m0, .inr (7, [.int 1, .ref m1, .int (nI w), .int (nI h), .int tp, .int ty, .ref m2, .ref m3, .int sf, .int rdg, .int rt, .int (nI rwd), .int (nI rht), .ref m4, .int dx, .int dy, .int p0, .int q0, .int p1, .int q1, .int kp, .ref m5, .ref m6, .int (nI k), .int (nI sk), .int (nI tr), .int (nI co), .long ma, .long mc, .int mt, .int (nI b)]))] H := hP
          have hD : va_D A [(m0, .inr (7, [.int 1, .ref m1, .int (nI w), .int (nI h), .int tp, .int ty, .ref m2, .ref m3, .int sf, .int rdg, .int rt, .int (nI rwd), .int (nI rht), .ref m4, .int dx, .int dy, .int p0, .int q0, .int p1, .int q1, .int kp, .ref m5, .ref m6, .int (nI k), .int (nI sk), .int (nI tr), .int (nI co), .long ma, .long mc, .int mt, .int (nI b)]))] := hD
          refine lv_aload_n hx hb dX8_shape_40 rfl (lv_at hl 0 rfl) ?_
          refine va_get (D := (dC, dI)) (ci := 7) (v := .int 1) (C := RX8) (T := TX8) (N := 31) hx hb hts hiX8 hown hK hP 0 rfl rfl 0 (by decide) (hts (.fieldLink RX8 48 "RefineRegionsModel" "thrown" "I") (by decide +kernel)) (fun _ h9 => h9) rfl dX8_shape_41 ?_
          refine lv_if_le (tgt := 48) hx hb dX8_shape_44 (by decide) (fun c9 => absurd c9 (by decide)) (fun _ => ?_)
          have hP9 := hP
          have hD9 := hD
          exact W.vret hx hb hr (fun t ht hW => ⟨⟨(), rfl, trivial, by rw [ht]; exact hP9, va_K.moved hW.alike hK, hD9⟩, hS.F ht⟩) hS.2.2 dX8_shape_47
        · refine lv_iload_n hx hb dX8_shape_23 rfl (lv_at hl 3 rfl) ?_
          refine lv_if_lt (tgt := 32) hx hb dX8_shape_24 (by decide) (fun c_24 => ?_) (fun c_24 => ?_)
          · refine lv_iconst (v := 1) hx hb dX8_shape_32 (by decide) ?_
            refine lv_goto (tgt := 37) hx hb dX8_shape_33 (by decide) ?_
            refine va_put (D := (dC, dI)) (ci := 7) (v := .int 1) (ty := .int) (C := RX8) (T := TX8) (N := 31) hx hb hts hiX8 tyX8 tyX8_ok nmX8 hown hK hP hD hS 0 rfl rfl 0 (by decide) (hts (.fieldLink RX8 48 "RefineRegionsModel" "thrown" "I") (by decide +kernel)) (fun _ h9 => h9) rfl (by decide +kernel) rfl rfl (Nat.le_of_ble_eq_true rfl) dX8_shape_37 (fun H locs hP hD hS => ?_)
            have hP : va_P (dC, dI) vwCl [(m0, .inr (7, [.int 1, .ref m1, .int (nI w), .int (nI h), .int tp, .int ty, .ref m2, .ref m3, .int sf, .int rdg, .int rt, .int (nI rwd), .int (nI rht), .ref m4, .int dx, .int dy, .int p0, .int q0, .int p1, .int q1, .int kp, .ref m5, .ref m6, .int (nI k), .int (nI sk), .int (nI tr), .int (nI co), .long ma, .long mc, .int mt, .int (nI b)]))] H := hP
            have hD : va_D A [(m0, .inr (7, [.int 1, .ref m1, .int (nI w), .int (nI h), .int tp, .int ty, .ref m2, .ref m3, .int sf, .int rdg, .int rt, .int (nI rwd), .int (nI rht), .ref m4, .int dx, .int dy, .int p0, .int q0, .int p1, .int q1, .int kp, .ref m5, .ref m6, .int (nI k), .int (nI sk), .int (nI tr), .int (nI co), .long ma, .long mc, .int mt, .int (nI b)]))] := hD
            refine lv_aload_n hx hb dX8_shape_40 rfl (lv_at hl 0 rfl) ?_
            refine va_get (D := (dC, dI)) (ci := 7) (v := .int 1) (C := RX8) (T := TX8) (N := 31) hx hb hts hiX8 hown hK hP 0 rfl rfl 0 (by decide) (hts (.fieldLink RX8 48 "RefineRegionsModel" "thrown" "I") (by decide +kernel)) (fun _ h9 => h9) rfl dX8_shape_41 ?_
            refine lv_if_le (tgt := 48) hx hb dX8_shape_44 (by decide) (fun c9 => absurd c9 (by decide)) (fun _ => ?_)
            have hP9 := hP
            have hD9 := hD
            exact W.vret hx hb hr (fun t ht hW => ⟨⟨(), rfl, trivial, by rw [ht]; exact hP9, va_K.moved hW.alike hK, hD9⟩, hS.F ht⟩) hS.2.2 dX8_shape_47
          · refine lv_iload_n hx hb dX8_shape_27 rfl (lv_at hl 3 rfl) ?_
            refine lv_iconst (v := 1) hx hb dX8_shape_28 (by decide) ?_
            refine lv_icmp_le (tgt := 36) hx hb dX8_shape_29 (by decide) (fun c_29 => absurd c_29 (fun h9 => sp_iw_3no hno c_3 c_9 c_14 c_20 c_24 (Int32.not_lt.mpr h9))) (fun c_29 => ?_)
            refine lv_iconst (v := 1) hx hb dX8_shape_32 (by decide) ?_
            refine lv_goto (tgt := 37) hx hb dX8_shape_33 (by decide) ?_
            refine va_put (D := (dC, dI)) (ci := 7) (v := .int 1) (ty := .int) (C := RX8) (T := TX8) (N := 31) hx hb hts hiX8 tyX8 tyX8_ok nmX8 hown hK hP hD hS 0 rfl rfl 0 (by decide) (hts (.fieldLink RX8 48 "RefineRegionsModel" "thrown" "I") (by decide +kernel)) (fun _ h9 => h9) rfl (by decide +kernel) rfl rfl (Nat.le_of_ble_eq_true rfl) dX8_shape_37 (fun H locs hP hD hS => ?_)
            have hP : va_P (dC, dI) vwCl [(m0, .inr (7, [.int 1, .ref m1, .int (nI w), .int (nI h), .int tp, .int ty, .ref m2, .ref m3, .int sf, .int rdg, .int rt, .int (nI rwd), .int (nI rht), .ref m4, .int dx, .int dy, .int p0, .int q0, .int p1, .int q1, .int kp, .ref m5, .ref m6, .int (nI k), .int (nI sk), .int (nI tr), .int (nI co), .long ma, .long mc, .int mt, .int (nI b)]))] H := hP
            have hD : va_D A [(m0, .inr (7, [.int 1, .ref m1, .int (nI w), .int (nI h), .int tp, .int ty, .ref m2, .ref m3, .int sf, .int rdg, .int rt, .int (nI rwd), .int (nI rht), .ref m4, .int dx, .int dy, .int p0, .int q0, .int p1, .int q1, .int kp, .ref m5, .ref m6, .int (nI k), .int (nI sk), .int (nI tr), .int (nI co), .long ma, .long mc, .int mt, .int (nI b)]))] := hD
            refine lv_aload_n hx hb dX8_shape_40 rfl (lv_at hl 0 rfl) ?_
            refine va_get (D := (dC, dI)) (ci := 7) (v := .int 1) (C := RX8) (T := TX8) (N := 31) hx hb hts hiX8 hown hK hP 0 rfl rfl 0 (by decide) (hts (.fieldLink RX8 48 "RefineRegionsModel" "thrown" "I") (by decide +kernel)) (fun _ h9 => h9) rfl dX8_shape_41 ?_
            refine lv_if_le (tgt := 48) hx hb dX8_shape_44 (by decide) (fun c9 => absurd c9 (by decide)) (fun _ => ?_)
            have hP9 := hP
            have hD9 := hD
            exact W.vret hx hb hr (fun t ht hW => ⟨⟨(), rfl, trivial, by rw [ht]; exact hP9, va_K.moved hW.alike hK, hD9⟩, hS.F ht⟩) hS.2.2 dX8_shape_47

set_option maxHeartbeats 4000000 in
set_option maxRecDepth 100000 in
/-- put, where there is such a pixel -/
theorem c_X8_put (l : Launch) (dC : Nat → ClassId) (dI : Nat → Nat → Nat) (cI cZ cJ : ClassId) (m0 : Nat) (m1 : Nat) (m2 : Nat) (m3 : Nat) (m4 : Nat) (m5 : Nat) (m6 : Nat) (th : Int32) (tp : Int32) (ty : Int32) (sf : Int32) (rdg : Int32) (rt : Int32) (dx : Int32) (dy : Int32) (p0 : Int32) (q0 : Int32) (p1 : Int32) (q1 : Int32) (kp : Int32) (w : Nat) (h : Nat) (rwd : Nat) (rht : Nat) (k : Nat) (sk : Nat) (tr : Nat) (co : Nat) (b : Nat) (ma : Int64) (mc : Int64) (mt : Int32) (pf : Nat → Int32) (x : Int32) (y : Int32) (bb : Bool) (hw1 : w ≤ 40) (hh1 : h ≤ 40) (h01 : sp_01 pf) (hxy : ¬ sp_ho (nI w) (nI h) x y = 0) (sz : Nat) : Met l yX8_put wsX8_put ({ frames := 1, cells := 0, slots := 0, locals := 22 }) (hw_Pre (dC, dI) vwCl (ty3 cI cZ cJ) [(m0, .inr (7, [.int th, .ref m1, .int (nI w), .int (nI h), .int tp, .int ty, .ref m2, .ref m3, .int sf, .int rdg, .int rt, .int (nI rwd), .int (nI rht), .ref m4, .int dx, .int dy, .int p0, .int q0, .int p1, .int q1, .int kp, .ref m5, .ref m6, .int (nI k), .int (nI sk), .int (nI tr), .int (nI co), .long ma, .long mc, .int mt, .int (nI b)])), (m2, .inl (cZ, 1600, .inl pf))] sz [.ref m0, .int x, .int y, .int (sp_z bb)]) (va_Qi (fun (r : Int32) (_ : Unit) => r = sp_px (nI 40) (nI w) (nI h) pf x y) (hw_at (dC, dI) vwCl (ty3 cI cZ cJ) (fun _ : Unit => [(m0, .inr (7, [.int 0, .ref m1, .int (nI w), .int (nI h), .int tp, .int ty, .ref m2, .ref m3, .int sf, .int rdg, .int rt, .int (nI rwd), .int (nI rht), .ref m4, .int dx, .int dy, .int p0, .int q0, .int p1, .int q1, .int kp, .ref m5, .ref m6, .int (nI k), .int (nI sk), .int (nI tr), .int (nI co), .long ma, .long mc, .int mt, .int (nI b)])), (m2, .inl (cZ, 1600, .inl (sp_pt (nI 40) (nI w) (nI h) pf x y (sp_z bb))))]) (va_A [(m0, .inr (7, [.int th, .ref m1, .int (nI w), .int (nI h), .int tp, .int ty, .ref m2, .ref m3, .int sf, .int rdg, .int rt, .int (nI rwd), .int (nI rht), .ref m4, .int dx, .int dy, .int p0, .int q0, .int p1, .int q1, .int kp, .ref m5, .ref m6, .int (nI k), .int (nI sk), .int (nI tr), .int (nI co), .long ma, .long mc, .int mt, .int (nI b)])), (m2, .inl (cZ, 1600, .inl pf))] sz)) (va_A [(m0, .inr (7, [.int th, .ref m1, .int (nI w), .int (nI h), .int tp, .int ty, .ref m2, .ref m3, .int sf, .int rdg, .int rt, .int (nI rwd), .int (nI rht), .ref m4, .int dx, .int dy, .int p0, .int q0, .int p1, .int q1, .int kp, .ref m5, .ref m6, .int (nI k), .int (nI sk), .int (nI tr), .int (nI co), .long ma, .long mc, .int mt, .int (nI b)])), (m2, .inl (cZ, 1600, .inl pf))] sz)) 0 0 (va_A [(m0, .inr (7, [.int th, .ref m1, .int (nI w), .int (nI h), .int tp, .int ty, .ref m2, .ref m3, .int sf, .int rdg, .int rt, .int (nI rwd), .int (nI rht), .ref m4, .int dx, .int dy, .int p0, .int q0, .int p1, .int q1, .int kp, .ref m5, .ref m6, .int (nI k), .int (nI sk), .int (nI tr), .int (nI co), .long ma, .long mc, .int mt, .int (nI b)])), (m2, .inl (cZ, 1600, .inl pf))] sz) := by
  refine Met.ofW (cc := cX8_put) (maxL := 5) (ret := (some .boolean)) (by decide) rfl ?_
  intro pg ev s m args below meth cd s₁ B hml hv
  obtain ⟨rfl, hsz, hP, hK, hN, hZ, hD0⟩ := hv
  have hx := B.exec
  have hb := B.bytes
  have hr := B.returns
  have hts := atoms_spec (ws := wsX8_put) B.pre
  have hown : s.vm.findClass RX8 = some m.cls := findClass_of_methodNamed B.named
  have hlocks := B.notSynchronized
  subst hsz
  have hD := hD0.self (sz := s.heap.size)
  generalize hAe : va_A [(m0, .inr (7, [.int th, .ref m1, .int (nI w), .int (nI h), .int tp, .int ty, .ref m2, .ref m3, .int sf, .int rdg, .int rt, .int (nI rwd), .int (nI rht), .ref m4, .int dx, .int dy, .int p0, .int q0, .int p1, .int q1, .int kp, .ref m5, .ref m6, .int (nI k), .int (nI sk), .int (nI tr), .int (nI co), .long ma, .long mc, .int mt, .int (nI b)])), (m2, .inl (cZ, 1600, .inl pf))] s.heap.size = A at hD hZ ⊢
  have hA : ∀ q : Nat, s.heap.size ≤ q → A q := fun q h => by rw [← hAe]; exact Or.inr h
  have hS : va_S A s.heap s.heap [] := va_S.rf
  have hk : hw_K (dC, dI) vwCl (ty3 cI cZ cJ) A s := ⟨hK, hN, hZ⟩
  have hiX8 : ∀ w ∈ u_ws RX8 TX8 31, w ∈ wsX8_put := by decide +kernel
  have hl := lv_entry ([.ref m0, .int x, .int y, .int (sp_z bb)]) (n := 5) (Nat.le_of_ble_eq_true rfl)
  rw [lg_entry_eq]
  generalize (lg_sl ([.ref m0, .int x, .int y, .int (sp_z bb)]) ++ List.replicate (5 - (lg_sl ([.ref m0, .int x, .int y, .int (sp_z bb)])).length) Slot.unset).toArray = ls at hl ⊢
  have hl : lv_has ls 5 [(0, .ref m0), (1, .int x), (2, .int y), (3, .int (sp_z bb))] := hl
  refine lv_aload_n hx hb dX8_put_0 rfl (lv_at hl 0 rfl) ?_
  refine lv_aload_n hx hb dX8_put_1 rfl (lv_at hl 0 rfl) ?_
  refine lv_iload_n hx hb dX8_put_2 rfl (lv_at hl 1 rfl) ?_
  refine lv_iload_n hx hb dX8_put_3 rfl (lv_at hl 2 rfl) ?_
  refine hw_callSe (va_runV (As := [.int x, .int y]) (rest := [.ref m0]) ⟨hx, hb, hml, hown, hts⟩ (c_X8_noPixel l dC dI cI cZ cJ m0 m1 m2 m3 m4 m5 m6 th tp ty sf rdg rt dx dy p0 q0 p1 q1 kp w h rwd rht k sk tr co b ma mc mt x y) (cwV 2 hts gX8_put_X8_noPixel rfl rfl rfl (by decide +kernel) ⟨Nat.le_of_ble_eq_true rfl, Nat.le_of_ble_eq_true rfl⟩) (hw_roV hP hS hk [0] rfl (ci := 7) (q0 := 0) rfl rfl) rfl rfl hl.1 rfl (lv_room (Nat.le_of_ble_eq_true rfl)) dX8_put_4 ⟨Nat.le_of_ble_eq_true rfl, Nat.le_of_ble_eq_true rfl⟩) ?_
  refine lv_if_eq (tgt := 14) hx hb dX8_put_7 (by decide) (fun c_7 => ?_) (fun c_7 => absurd (sp_no_y hxy) c_7)
  refine lv_iconst (v := 0) hx hb dX8_put_14 (by decide) ?_
  refine va_put (D := (dC, dI)) (ci := 7) (v := .int 0) (ty := .int) (C := RX8) (T := TX8) (N := 31) hx hb hts hiX8 tyX8 tyX8_ok nmX8 hown hK hP hD hS 0 rfl rfl 0 (by decide) (hts (.fieldLink RX8 48 "RefineRegionsModel" "thrown" "I") (by decide +kernel)) (fun _ h9 => h9) rfl (by decide +kernel) rfl rfl (Nat.le_of_ble_eq_true rfl) dX8_put_15 (fun H locs hP hD hS => ?_)
  have hP : va_P (dC, dI) vwCl [(m0, .inr (7, [.int 0, .ref m1, .int (nI w), .int (nI h), .int tp, .int ty, .ref m2, .ref m3, .int sf, .int rdg, .int rt, .int (nI rwd), .int (nI rht), .ref m4, .int dx, .int dy, .int p0, .int q0, .int p1, .int q1, .int kp, .ref m5, .ref m6, .int (nI k), .int (nI sk), .int (nI tr), .int (nI co), .long ma, .long mc, .int mt, .int (nI b)])), (m2, .inl (cZ, 1600, .inl pf))] H := hP
  have hD : va_D A [(m0, .inr (7, [.int 0, .ref m1, .int (nI w), .int (nI h), .int tp, .int ty, .ref m2, .ref m3, .int sf, .int rdg, .int rt, .int (nI rwd), .int (nI rht), .ref m4, .int dx, .int dy, .int p0, .int q0, .int p1, .int q1, .int kp, .ref m5, .ref m6, .int (nI k), .int (nI sk), .int (nI tr), .int (nI co), .long ma, .long mc, .int mt, .int (nI b)])), (m2, .inl (cZ, 1600, .inl pf))] := hD
  refine lv_aload_n hx hb dX8_put_18 rfl (lv_at hl 0 rfl) ?_
  refine va_get (D := (dC, dI)) (ci := 7) (v := .int 0) (C := RX8) (T := TX8) (N := 31) hx hb hts hiX8 hown hK hP 0 rfl rfl 0 (by decide) (hts (.fieldLink RX8 48 "RefineRegionsModel" "thrown" "I") (by decide +kernel)) (fun _ h9 => h9) rfl dX8_put_19 ?_
  refine lv_if_le (tgt := 27) hx hb dX8_put_22 (by decide) (fun _ => ?_) (fun c9 => absurd (by decide) c9)
  refine lv_aload_n hx hb dX8_put_27 rfl (lv_at hl 0 rfl) ?_
  refine va_get (D := (dC, dI)) (ci := 7) (v := .ref m2) (C := RX8) (T := TX8) (N := 31) hx hb hts hiX8 hown hK hP 0 rfl rfl 6 (by decide) (hts (.fieldLink RX8 20 "RefineRegionsModel" "picture" "[Z") (by decide +kernel)) (fun _ h9 => h9) rfl dX8_put_28 ?_
  refine lv_bipush (v := 40) hx hb dX8_put_31 (by decide) ?_
  refine lv_iload_n hx hb dX8_put_33 rfl (lv_at hl 2 rfl) ?_
  refine lv_imul hx hb dX8_put_34 ?_
  refine lv_iload_n hx hb dX8_put_35 rfl (lv_at hl 1 rfl) ?_
  refine lv_iadd hx hb dX8_put_36 ?_
  refine va_zald hx hb hK hP 1 1 rfl rfl (by rw [sp_40]; exact sp_ho_ix (n := 40) (by decide) hw1 hh1 hxy) dX8_put_37 ?_
  refine hw_i (y := sp_px (nI 40) (nI w) (nI h) pf x y) (by rw [sp_px_ho1 hxy, sp_40]) ?_
  refine lv_istore (lv' := [(4, .int (sp_px (nI 40) (nI w) (nI h) pf x y)), (0, .ref m0), (1, .int x), (2, .int y), (3, .int (sp_z bb))]) hx hb dX8_put_38 hl (by decide) rfl (fun ls hl => ?_)
  refine lv_aload_n hx hb dX8_put_40 rfl (lv_at hl 1 rfl) ?_
  refine va_get (D := (dC, dI)) (ci := 7) (v := .ref m2) (C := RX8) (T := TX8) (N := 31) hx hb hts hiX8 hown hK hP 0 rfl rfl 6 (by decide) (hts (.fieldLink RX8 20 "RefineRegionsModel" "picture" "[Z") (by decide +kernel)) (fun _ h9 => h9) rfl dX8_put_41 ?_
  refine lv_bipush (v := 40) hx hb dX8_put_44 (by decide) ?_
  refine lv_iload_n hx hb dX8_put_46 rfl (lv_at hl 3 rfl) ?_
  refine lv_imul hx hb dX8_put_47 ?_
  refine lv_iload_n hx hb dX8_put_48 rfl (lv_at hl 2 rfl) ?_
  refine lv_iadd hx hb dX8_put_49 ?_
  refine lv_iload_n hx hb dX8_put_50 rfl (lv_at hl 4 rfl) ?_
  refine va_zast hx hb hK hP hD hS 1 1 rfl rfl (by rw [sp_40]; exact sp_ho_ix (n := 40) (by decide) hw1 hh1 hxy) dX8_put_51 (fun H locs hP hD hS => ?_)
  have eA : upd pf ((40 * y) + x).toNatClampNeg (vp_nar .boolean (sp_z bb)) = sp_pt (nI 40) (nI w) (nI h) pf x y (sp_z bb) := by rw [sp_pt_in hxy, hw_nar (sp_z_01 _), sp_40]
  rw [eA] at hP hD
  have hP : va_P (dC, dI) vwCl [(m0, .inr (7, [.int 0, .ref m1, .int (nI w), .int (nI h), .int tp, .int ty, .ref m2, .ref m3, .int sf, .int rdg, .int rt, .int (nI rwd), .int (nI rht), .ref m4, .int dx, .int dy, .int p0, .int q0, .int p1, .int q1, .int kp, .ref m5, .ref m6, .int (nI k), .int (nI sk), .int (nI tr), .int (nI co), .long ma, .long mc, .int mt, .int (nI b)])), (m2, .inl (cZ, 1600, .inl (sp_pt (nI 40) (nI w) (nI h) pf x y (sp_z bb))))] H := hP
  have hD : va_D A [(m0, .inr (7, [.int 0, .ref m1, .int (nI w), .int (nI h), .int tp, .int ty, .ref m2, .ref m3, .int sf, .int rdg, .int rt, .int (nI rwd), .int (nI rht), .ref m4, .int dx, .int dy, .int p0, .int q0, .int p1, .int q1, .int kp, .ref m5, .ref m6, .int (nI k), .int (nI sk), .int (nI tr), .int (nI co), .long ma, .long mc, .int mt, .int (nI b)])), (m2, .inl (cZ, 1600, .inl (sp_pt (nI 40) (nI w) (nI h) pf x y (sp_z bb))))] := hD
  refine lv_iload hx hb dX8_put_52 (lv_at hl 0 rfl) ?_
  have hP9 := hP
  have hD9 := hD
  exact W.zret (v := sp_px (nI 40) (nI w) (nI h) pf x y) hx hb hr (hw_z (sp_px_02 h01 _ _)) (fun t ht hW => ⟨⟨sp_px (nI 40) (nI w) (nI h) pf x y, (), rfl, rfl, by rw [ht]; exact hP9, va_K.moved hW.alike hK, hD9⟩, hS.F ht⟩) hS.2.2 dX8_put_54

set_option maxHeartbeats 4000000 in
set_option maxRecDepth 100000 in
/-- put, refused -/
theorem c_X8_put_no (l : Launch) (dC : Nat → ClassId) (dI : Nat → Nat → Nat) (cI cZ cJ : ClassId) (m0 : Nat) (m1 : Nat) (m2 : Nat) (m3 : Nat) (m4 : Nat) (m5 : Nat) (m6 : Nat) (th : Int32) (tp : Int32) (ty : Int32) (sf : Int32) (rdg : Int32) (rt : Int32) (dx : Int32) (dy : Int32) (p0 : Int32) (q0 : Int32) (p1 : Int32) (q1 : Int32) (kp : Int32) (w : Nat) (h : Nat) (rwd : Nat) (rht : Nat) (k : Nat) (sk : Nat) (tr : Nat) (co : Nat) (b : Nat) (ma : Int64) (mc : Int64) (mt : Int32) (x : Int32) (y : Int32) (bb : Bool) (hxy : sp_ho (nI w) (nI h) x y = 0) (sz : Nat) : Met l yX8_put wsX8_put ({ frames := 1, cells := 0, slots := 0, locals := 22 }) (hw_Pre (dC, dI) vwCl (ty3 cI cZ cJ) [(m0, .inr (7, [.int th, .ref m1, .int (nI w), .int (nI h), .int tp, .int ty, .ref m2, .ref m3, .int sf, .int rdg, .int rt, .int (nI rwd), .int (nI rht), .ref m4, .int dx, .int dy, .int p0, .int q0, .int p1, .int q1, .int kp, .ref m5, .ref m6, .int (nI k), .int (nI sk), .int (nI tr), .int (nI co), .long ma, .long mc, .int mt, .int (nI b)]))] sz [.ref m0, .int x, .int y, .int (sp_z bb)]) (va_Qi (fun (r : Int32) (_ : Unit) => r = 0) (hw_at (dC, dI) vwCl (ty3 cI cZ cJ) (fun _ : Unit => [(m0, .inr (7, [.int 1, .ref m1, .int (nI w), .int (nI h), .int tp, .int ty, .ref m2, .ref m3, .int sf, .int rdg, .int rt, .int (nI rwd), .int (nI rht), .ref m4, .int dx, .int dy, .int p0, .int q0, .int p1, .int q1, .int kp, .ref m5, .ref m6, .int (nI k), .int (nI sk), .int (nI tr), .int (nI co), .long ma, .long mc, .int mt, .int (nI b)]))]) (va_A [(m0, .inr (7, [.int th, .ref m1, .int (nI w), .int (nI h), .int tp, .int ty, .ref m2, .ref m3, .int sf, .int rdg, .int rt, .int (nI rwd), .int (nI rht), .ref m4, .int dx, .int dy, .int p0, .int q0, .int p1, .int q1, .int kp, .ref m5, .ref m6, .int (nI k), .int (nI sk), .int (nI tr), .int (nI co), .long ma, .long mc, .int mt, .int (nI b)]))] sz)) (va_A [(m0, .inr (7, [.int th, .ref m1, .int (nI w), .int (nI h), .int tp, .int ty, .ref m2, .ref m3, .int sf, .int rdg, .int rt, .int (nI rwd), .int (nI rht), .ref m4, .int dx, .int dy, .int p0, .int q0, .int p1, .int q1, .int kp, .ref m5, .ref m6, .int (nI k), .int (nI sk), .int (nI tr), .int (nI co), .long ma, .long mc, .int mt, .int (nI b)]))] sz)) 0 0 (va_A [(m0, .inr (7, [.int th, .ref m1, .int (nI w), .int (nI h), .int tp, .int ty, .ref m2, .ref m3, .int sf, .int rdg, .int rt, .int (nI rwd), .int (nI rht), .ref m4, .int dx, .int dy, .int p0, .int q0, .int p1, .int q1, .int kp, .ref m5, .ref m6, .int (nI k), .int (nI sk), .int (nI tr), .int (nI co), .long ma, .long mc, .int mt, .int (nI b)]))] sz) := by
  refine Met.ofW (cc := cX8_put) (maxL := 5) (ret := (some .boolean)) (by decide) rfl ?_
  intro pg ev s m args below meth cd s₁ B hml hv
  obtain ⟨rfl, hsz, hP, hK, hN, hZ, hD0⟩ := hv
  have hx := B.exec
  have hb := B.bytes
  have hr := B.returns
  have hts := atoms_spec (ws := wsX8_put) B.pre
  have hown : s.vm.findClass RX8 = some m.cls := findClass_of_methodNamed B.named
  have hlocks := B.notSynchronized
  subst hsz
  have hD := hD0.self (sz := s.heap.size)
  generalize hAe : va_A [(m0, .inr (7, [.int th, .ref m1, .int (nI w), .int (nI h), .int tp, .int ty, .ref m2, .ref m3, .int sf, .int rdg, .int rt, .int (nI rwd), .int (nI rht), .ref m4, .int dx, .int dy, .int p0, .int q0, .int p1, .int q1, .int kp, .ref m5, .ref m6, .int (nI k), .int (nI sk), .int (nI tr), .int (nI co), .long ma, .long mc, .int mt, .int (nI b)]))] s.heap.size = A at hD hZ ⊢
  have hA : ∀ q : Nat, s.heap.size ≤ q → A q := fun q h => by rw [← hAe]; exact Or.inr h
  have hS : va_S A s.heap s.heap [] := va_S.rf
  have hk : hw_K (dC, dI) vwCl (ty3 cI cZ cJ) A s := ⟨hK, hN, hZ⟩
  have hiX8 : ∀ w ∈ u_ws RX8 TX8 31, w ∈ wsX8_put := by decide +kernel
  have hl := lv_entry ([.ref m0, .int x, .int y, .int (sp_z bb)]) (n := 5) (Nat.le_of_ble_eq_true rfl)
  rw [lg_entry_eq]
  generalize (lg_sl ([.ref m0, .int x, .int y, .int (sp_z bb)]) ++ List.replicate (5 - (lg_sl ([.ref m0, .int x, .int y, .int (sp_z bb)])).length) Slot.unset).toArray = ls at hl ⊢
  have hl : lv_has ls 5 [(0, .ref m0), (1, .int x), (2, .int y), (3, .int (sp_z bb))] := hl
  refine lv_aload_n hx hb dX8_put_0 rfl (lv_at hl 0 rfl) ?_
  refine lv_aload_n hx hb dX8_put_1 rfl (lv_at hl 0 rfl) ?_
  refine lv_iload_n hx hb dX8_put_2 rfl (lv_at hl 1 rfl) ?_
  refine lv_iload_n hx hb dX8_put_3 rfl (lv_at hl 2 rfl) ?_
  refine hw_callSe (va_runV (As := [.int x, .int y]) (rest := [.ref m0]) ⟨hx, hb, hml, hown, hts⟩ (c_X8_noPixel l dC dI cI cZ cJ m0 m1 m2 m3 m4 m5 m6 th tp ty sf rdg rt dx dy p0 q0 p1 q1 kp w h rwd rht k sk tr co b ma mc mt x y) (cwV 2 hts gX8_put_X8_noPixel rfl rfl rfl (by decide +kernel) ⟨Nat.le_of_ble_eq_true rfl, Nat.le_of_ble_eq_true rfl⟩) (hw_roV hP hS hk [0] rfl (ci := 7) (q0 := 0) rfl rfl) rfl rfl hl.1 rfl (lv_room (Nat.le_of_ble_eq_true rfl)) dX8_put_4 ⟨Nat.le_of_ble_eq_true rfl, Nat.le_of_ble_eq_true rfl⟩) ?_
  refine lv_if_eq (tgt := 14) hx hb dX8_put_7 (by decide) (fun c_7 => absurd c_7 (sp_no_n hxy)) (fun c_7 => ?_)
  refine lv_iconst (v := 1) hx hb dX8_put_10 (by decide) ?_
  refine lv_goto (tgt := 15) hx hb dX8_put_11 (by decide) ?_
  refine va_put (D := (dC, dI)) (ci := 7) (v := .int 1) (ty := .int) (C := RX8) (T := TX8) (N := 31) hx hb hts hiX8 tyX8 tyX8_ok nmX8 hown hK hP hD hS 0 rfl rfl 0 (by decide) (hts (.fieldLink RX8 48 "RefineRegionsModel" "thrown" "I") (by decide +kernel)) (fun _ h9 => h9) rfl (by decide +kernel) rfl rfl (Nat.le_of_ble_eq_true rfl) dX8_put_15 (fun H locs hP hD hS => ?_)
  have hP : va_P (dC, dI) vwCl [(m0, .inr (7, [.int 1, .ref m1, .int (nI w), .int (nI h), .int tp, .int ty, .ref m2, .ref m3, .int sf, .int rdg, .int rt, .int (nI rwd), .int (nI rht), .ref m4, .int dx, .int dy, .int p0, .int q0, .int p1, .int q1, .int kp, .ref m5, .ref m6, .int (nI k), .int (nI sk), .int (nI tr), .int (nI co), .long ma, .long mc, .int mt, .int (nI b)]))] H := hP
  have hD : va_D A [(m0, .inr (7, [.int 1, .ref m1, .int (nI w), .int (nI h), .int tp, .int ty, .ref m2, .ref m3, .int sf, .int rdg, .int rt, .int (nI rwd), .int (nI rht), .ref m4, .int dx, .int dy, .int p0, .int q0, .int p1, .int q1, .int kp, .ref m5, .ref m6, .int (nI k), .int (nI sk), .int (nI tr), .int (nI co), .long ma, .long mc, .int mt, .int (nI b)]))] := hD
  refine lv_aload_n hx hb dX8_put_18 rfl (lv_at hl 0 rfl) ?_
  refine va_get (D := (dC, dI)) (ci := 7) (v := .int 1) (C := RX8) (T := TX8) (N := 31) hx hb hts hiX8 hown hK hP 0 rfl rfl 0 (by decide) (hts (.fieldLink RX8 48 "RefineRegionsModel" "thrown" "I") (by decide +kernel)) (fun _ h9 => h9) rfl dX8_put_19 ?_
  refine lv_if_le (tgt := 27) hx hb dX8_put_22 (by decide) (fun c9 => absurd c9 (by decide)) (fun _ => ?_)
  refine lv_iconst (v := 0) hx hb dX8_put_25 (by decide) ?_
  have hP9 := hP
  have hD9 := hD
  exact W.zret (v := 0) hx hb hr (by decide +kernel) (fun t ht hW => ⟨⟨0, (), rfl, rfl, by rw [ht]; exact hP9, va_K.moved hW.alike hK, hD9⟩, hS.F ht⟩) hS.2.2 dX8_put_26

set_option maxHeartbeats 4000000 in
set_option maxRecDepth 100000 in
/-- whiteReference(w, h) -/
theorem c_X8_whiteReference (l : Launch) (dC : Nat → ClassId) (dI : Nat → Nat → Nat) (cI cZ cJ : ClassId) (m0 : Nat) (m1 : Nat) (m2 : Nat) (m3 : Nat) (m4 : Nat) (m5 : Nat) (m6 : Nat) (th : Int32) (tp : Int32) (ty : Int32) (sf : Int32) (rdg : Int32) (rt : Int32) (dx : Int32) (dy : Int32) (p0 : Int32) (q0 : Int32) (p1 : Int32) (q1 : Int32) (kp : Int32) (w : Nat) (h : Nat) (rwd : Nat) (rht : Nat) (k : Nat) (sk : Nat) (tr : Nat) (co : Nat) (b : Nat) (ma : Int64) (mc : Int64) (mt : Int32) (rg : Nat → Int32) (w2 : Nat) (h2 : Nat) (sz : Nat) : Met l yX8_whiteReference wsX8_whiteReference ({ frames := 0, cells := 0, slots := 0, locals := 0 }) (hw_Pre (dC, dI) vwCl (ty3 cI cZ cJ) [(m0, .inr (7, [.int th, .ref m1, .int (nI w), .int (nI h), .int tp, .int ty, .ref m2, .ref m3, .int sf, .int rdg, .int rt, .int (nI rwd), .int (nI rht), .ref m4, .int dx, .int dy, .int p0, .int q0, .int p1, .int q1, .int kp, .ref m5, .ref m6, .int (nI k), .int (nI sk), .int (nI tr), .int (nI co), .long ma, .long mc, .int mt, .int (nI b)])), (m4, .inl (cZ, 3600, .inl rg))] sz [.ref m0, .int (nI w2), .int (nI h2)]) (va_Qv (fun _ : Unit => True) (hw_at (dC, dI) vwCl (ty3 cI cZ cJ) (fun _ : Unit => [(m0, .inr (7, [.int th, .ref m1, .int (nI w), .int (nI h), .int tp, .int ty, .ref m2, .ref m3, .int sf, .int rdg, .int 1, .int (nI w2), .int (nI h2), .ref m4, .int 0, .int 0, .int p0, .int q0, .int p1, .int q1, .int kp, .ref m5, .ref m6, .int (nI k), .int (nI sk), .int (nI tr), .int (nI co), .long ma, .long mc, .int mt, .int (nI b)])), (m4, .inl (cZ, 3600, .inl (fun _ => 0)))]) (va_A [(m0, .inr (7, [.int th, .ref m1, .int (nI w), .int (nI h), .int tp, .int ty, .ref m2, .ref m3, .int sf, .int rdg, .int rt, .int (nI rwd), .int (nI rht), .ref m4, .int dx, .int dy, .int p0, .int q0, .int p1, .int q1, .int kp, .ref m5, .ref m6, .int (nI k), .int (nI sk), .int (nI tr), .int (nI co), .long ma, .long mc, .int mt, .int (nI b)])), (m4, .inl (cZ, 3600, .inl rg))] sz)) (va_A [(m0, .inr (7, [.int th, .ref m1, .int (nI w), .int (nI h), .int tp, .int ty, .ref m2, .ref m3, .int sf, .int rdg, .int rt, .int (nI rwd), .int (nI rht), .ref m4, .int dx, .int dy, .int p0, .int q0, .int p1, .int q1, .int kp, .ref m5, .ref m6, .int (nI k), .int (nI sk), .int (nI tr), .int (nI co), .long ma, .long mc, .int mt, .int (nI b)])), (m4, .inl (cZ, 3600, .inl rg))] sz)) 0 0 (va_A [(m0, .inr (7, [.int th, .ref m1, .int (nI w), .int (nI h), .int tp, .int ty, .ref m2, .ref m3, .int sf, .int rdg, .int rt, .int (nI rwd), .int (nI rht), .ref m4, .int dx, .int dy, .int p0, .int q0, .int p1, .int q1, .int kp, .ref m5, .ref m6, .int (nI k), .int (nI sk), .int (nI tr), .int (nI co), .long ma, .long mc, .int mt, .int (nI b)])), (m4, .inl (cZ, 3600, .inl rg))] sz) := by
  refine Met.ofW (cc := cX8_whiteReference) (maxL := 4) (ret := none) (by decide) rfl ?_
  intro pg ev s m args below meth cd s₁ B hml hv
  obtain ⟨rfl, hsz, hP, hK, hN, hZ, hD0⟩ := hv
  have hx := B.exec
  have hb := B.bytes
  have hr := B.returns
  have hts := atoms_spec (ws := wsX8_whiteReference) B.pre
  have hown : s.vm.findClass RX8 = some m.cls := findClass_of_methodNamed B.named
  have hlocks := B.notSynchronized
  subst hsz
  have hD := hD0.self (sz := s.heap.size)
  generalize hAe : va_A [(m0, .inr (7, [.int th, .ref m1, .int (nI w), .int (nI h), .int tp, .int ty, .ref m2, .ref m3, .int sf, .int rdg, .int rt, .int (nI rwd), .int (nI rht), .ref m4, .int dx, .int dy, .int p0, .int q0, .int p1, .int q1, .int kp, .ref m5, .ref m6, .int (nI k), .int (nI sk), .int (nI tr), .int (nI co), .long ma, .long mc, .int mt, .int (nI b)])), (m4, .inl (cZ, 3600, .inl rg))] s.heap.size = A at hD hZ ⊢
  have hA : ∀ q : Nat, s.heap.size ≤ q → A q := fun q h => by rw [← hAe]; exact Or.inr h
  have hS : va_S A s.heap s.heap [] := va_S.rf
  have hk : hw_K (dC, dI) vwCl (ty3 cI cZ cJ) A s := ⟨hK, hN, hZ⟩
  have hiX8 : ∀ w ∈ u_ws RX8 TX8 31, w ∈ wsX8_whiteReference := by decide +kernel
  have hl := lv_entry ([.ref m0, .int (nI w2), .int (nI h2)]) (n := 4) (Nat.le_of_ble_eq_true rfl)
  rw [lg_entry_eq]
  generalize (lg_sl ([.ref m0, .int (nI w2), .int (nI h2)]) ++ List.replicate (4 - (lg_sl ([.ref m0, .int (nI w2), .int (nI h2)])).length) Slot.unset).toArray = ls at hl ⊢
  have hl : lv_has ls 4 [(0, .ref m0), (1, .int (nI w2)), (2, .int (nI h2))] := hl
  refine lv_aload_n hx hb dX8_whiteReference_0 rfl (lv_at hl 0 rfl) ?_
  refine lv_iconst (v := 1) hx hb dX8_whiteReference_1 (by decide) ?_
  refine va_put (D := (dC, dI)) (ci := 7) (v := .int 1) (ty := .boolean) (C := RX8) (T := TX8) (N := 31) hx hb hts hiX8 tyX8 tyX8_ok nmX8 hown hK hP hD hS 0 rfl rfl 10 (by decide) (hts (.fieldLink RX8 65 "RefineRegionsModel" "hasReference" "Z") (by decide +kernel)) (fun _ h9 => h9) rfl (by decide +kernel) (by decide +kernel) rfl (Nat.le_of_ble_eq_true rfl) dX8_whiteReference_2 (fun H locs hP hD hS => ?_)
  have hP : va_P (dC, dI) vwCl [(m0, .inr (7, [.int th, .ref m1, .int (nI w), .int (nI h), .int tp, .int ty, .ref m2, .ref m3, .int sf, .int rdg, .int 1, .int (nI rwd), .int (nI rht), .ref m4, .int dx, .int dy, .int p0, .int q0, .int p1, .int q1, .int kp, .ref m5, .ref m6, .int (nI k), .int (nI sk), .int (nI tr), .int (nI co), .long ma, .long mc, .int mt, .int (nI b)])), (m4, .inl (cZ, 3600, .inl rg))] H := hP
  have hD : va_D A [(m0, .inr (7, [.int th, .ref m1, .int (nI w), .int (nI h), .int tp, .int ty, .ref m2, .ref m3, .int sf, .int rdg, .int 1, .int (nI rwd), .int (nI rht), .ref m4, .int dx, .int dy, .int p0, .int q0, .int p1, .int q1, .int kp, .ref m5, .ref m6, .int (nI k), .int (nI sk), .int (nI tr), .int (nI co), .long ma, .long mc, .int mt, .int (nI b)])), (m4, .inl (cZ, 3600, .inl rg))] := hD
  refine lv_aload_n hx hb dX8_whiteReference_5 rfl (lv_at hl 0 rfl) ?_
  refine lv_iload_n hx hb dX8_whiteReference_6 rfl (lv_at hl 1 rfl) ?_
  refine va_put (D := (dC, dI)) (ci := 7) (v := .int (nI w2)) (ty := .int) (C := RX8) (T := TX8) (N := 31) hx hb hts hiX8 tyX8 tyX8_ok nmX8 hown hK hP hD hS 0 rfl rfl 11 (by decide) (hts (.fieldLink RX8 68 "RefineRegionsModel" "wide" "I") (by decide +kernel)) (fun _ h9 => h9) rfl (by decide +kernel) rfl rfl (Nat.le_of_ble_eq_true rfl) dX8_whiteReference_7 (fun H locs hP hD hS => ?_)
  have hP : va_P (dC, dI) vwCl [(m0, .inr (7, [.int th, .ref m1, .int (nI w), .int (nI h), .int tp, .int ty, .ref m2, .ref m3, .int sf, .int rdg, .int 1, .int (nI w2), .int (nI rht), .ref m4, .int dx, .int dy, .int p0, .int q0, .int p1, .int q1, .int kp, .ref m5, .ref m6, .int (nI k), .int (nI sk), .int (nI tr), .int (nI co), .long ma, .long mc, .int mt, .int (nI b)])), (m4, .inl (cZ, 3600, .inl rg))] H := hP
  have hD : va_D A [(m0, .inr (7, [.int th, .ref m1, .int (nI w), .int (nI h), .int tp, .int ty, .ref m2, .ref m3, .int sf, .int rdg, .int 1, .int (nI w2), .int (nI rht), .ref m4, .int dx, .int dy, .int p0, .int q0, .int p1, .int q1, .int kp, .ref m5, .ref m6, .int (nI k), .int (nI sk), .int (nI tr), .int (nI co), .long ma, .long mc, .int mt, .int (nI b)])), (m4, .inl (cZ, 3600, .inl rg))] := hD
  refine lv_aload_n hx hb dX8_whiteReference_10 rfl (lv_at hl 0 rfl) ?_
  refine lv_iload_n hx hb dX8_whiteReference_11 rfl (lv_at hl 2 rfl) ?_
  refine va_put (D := (dC, dI)) (ci := 7) (v := .int (nI h2)) (ty := .int) (C := RX8) (T := TX8) (N := 31) hx hb hts hiX8 tyX8 tyX8_ok nmX8 hown hK hP hD hS 0 rfl rfl 12 (by decide) (hts (.fieldLink RX8 71 "RefineRegionsModel" "high" "I") (by decide +kernel)) (fun _ h9 => h9) rfl (by decide +kernel) rfl rfl (Nat.le_of_ble_eq_true rfl) dX8_whiteReference_12 (fun H locs hP hD hS => ?_)
  have hP : va_P (dC, dI) vwCl [(m0, .inr (7, [.int th, .ref m1, .int (nI w), .int (nI h), .int tp, .int ty, .ref m2, .ref m3, .int sf, .int rdg, .int 1, .int (nI w2), .int (nI h2), .ref m4, .int dx, .int dy, .int p0, .int q0, .int p1, .int q1, .int kp, .ref m5, .ref m6, .int (nI k), .int (nI sk), .int (nI tr), .int (nI co), .long ma, .long mc, .int mt, .int (nI b)])), (m4, .inl (cZ, 3600, .inl rg))] H := hP
  have hD : va_D A [(m0, .inr (7, [.int th, .ref m1, .int (nI w), .int (nI h), .int tp, .int ty, .ref m2, .ref m3, .int sf, .int rdg, .int 1, .int (nI w2), .int (nI h2), .ref m4, .int dx, .int dy, .int p0, .int q0, .int p1, .int q1, .int kp, .ref m5, .ref m6, .int (nI k), .int (nI sk), .int (nI tr), .int (nI co), .long ma, .long mc, .int mt, .int (nI b)])), (m4, .inl (cZ, 3600, .inl rg))] := hD
  refine lv_aload_n hx hb dX8_whiteReference_15 rfl (lv_at hl 0 rfl) ?_
  refine lv_iconst (v := 0) hx hb dX8_whiteReference_16 (by decide) ?_
  refine va_put (D := (dC, dI)) (ci := 7) (v := .int 0) (ty := .int) (C := RX8) (T := TX8) (N := 31) hx hb hts hiX8 tyX8 tyX8_ok nmX8 hown hK hP hD hS 0 rfl rfl 14 (by decide) (hts (.fieldLink RX8 74 "RefineRegionsModel" "dx" "I") (by decide +kernel)) (fun _ h9 => h9) rfl (by decide +kernel) rfl rfl (Nat.le_of_ble_eq_true rfl) dX8_whiteReference_17 (fun H locs hP hD hS => ?_)
  have hP : va_P (dC, dI) vwCl [(m0, .inr (7, [.int th, .ref m1, .int (nI w), .int (nI h), .int tp, .int ty, .ref m2, .ref m3, .int sf, .int rdg, .int 1, .int (nI w2), .int (nI h2), .ref m4, .int 0, .int dy, .int p0, .int q0, .int p1, .int q1, .int kp, .ref m5, .ref m6, .int (nI k), .int (nI sk), .int (nI tr), .int (nI co), .long ma, .long mc, .int mt, .int (nI b)])), (m4, .inl (cZ, 3600, .inl rg))] H := hP
  have hD : va_D A [(m0, .inr (7, [.int th, .ref m1, .int (nI w), .int (nI h), .int tp, .int ty, .ref m2, .ref m3, .int sf, .int rdg, .int 1, .int (nI w2), .int (nI h2), .ref m4, .int 0, .int dy, .int p0, .int q0, .int p1, .int q1, .int kp, .ref m5, .ref m6, .int (nI k), .int (nI sk), .int (nI tr), .int (nI co), .long ma, .long mc, .int mt, .int (nI b)])), (m4, .inl (cZ, 3600, .inl rg))] := hD
  refine lv_aload_n hx hb dX8_whiteReference_20 rfl (lv_at hl 0 rfl) ?_
  refine lv_iconst (v := 0) hx hb dX8_whiteReference_21 (by decide) ?_
  refine va_put (D := (dC, dI)) (ci := 7) (v := .int 0) (ty := .int) (C := RX8) (T := TX8) (N := 31) hx hb hts hiX8 tyX8 tyX8_ok nmX8 hown hK hP hD hS 0 rfl rfl 15 (by decide) (hts (.fieldLink RX8 77 "RefineRegionsModel" "dy" "I") (by decide +kernel)) (fun _ h9 => h9) rfl (by decide +kernel) rfl rfl (Nat.le_of_ble_eq_true rfl) dX8_whiteReference_22 (fun H locs hP hD hS => ?_)
  have hP : va_P (dC, dI) vwCl [(m0, .inr (7, [.int th, .ref m1, .int (nI w), .int (nI h), .int tp, .int ty, .ref m2, .ref m3, .int sf, .int rdg, .int 1, .int (nI w2), .int (nI h2), .ref m4, .int 0, .int 0, .int p0, .int q0, .int p1, .int q1, .int kp, .ref m5, .ref m6, .int (nI k), .int (nI sk), .int (nI tr), .int (nI co), .long ma, .long mc, .int mt, .int (nI b)])), (m4, .inl (cZ, 3600, .inl rg))] H := hP
  have hD : va_D A [(m0, .inr (7, [.int th, .ref m1, .int (nI w), .int (nI h), .int tp, .int ty, .ref m2, .ref m3, .int sf, .int rdg, .int 1, .int (nI w2), .int (nI h2), .ref m4, .int 0, .int 0, .int p0, .int q0, .int p1, .int q1, .int kp, .ref m5, .ref m6, .int (nI k), .int (nI sk), .int (nI tr), .int (nI co), .long ma, .long mc, .int mt, .int (nI b)])), (m4, .inl (cZ, 3600, .inl rg))] := hD
  refine lv_iconst (v := 0) hx hb dX8_whiteReference_25 (by decide) ?_
  refine lv_istore_n (lv' := [(3, .int 0), (0, .ref m0), (1, .int (nI w2)), (2, .int (nI h2))]) hx hb dX8_whiteReference_26 rfl hl (by decide) rfl (fun ls hl => ?_)
  have loop_27 : ∀ (fu : Nat) (i : Nat) (g : Nat → Int32), (i ≤ 3600) → (∀ j, j < i → g j = 0) → (3600 - i < fu) → ∀ (H : Heap) (locs : List Loc), va_P (dC, dI) vwCl [(m0, .inr (7, [.int th, .ref m1, .int (nI w), .int (nI h), .int tp, .int ty, .ref m2, .ref m3, .int sf, .int rdg, .int 1, .int (nI w2), .int (nI h2), .ref m4, .int 0, .int 0, .int p0, .int q0, .int p1, .int q1, .int kp, .ref m5, .ref m6, .int (nI k), .int (nI sk), .int (nI tr), .int (nI co), .long ma, .long mc, .int mt, .int (nI b)])), (m4, .inl (cZ, 3600, .inl g))] H → va_D A [(m0, .inr (7, [.int th, .ref m1, .int (nI w), .int (nI h), .int tp, .int ty, .ref m2, .ref m3, .int sf, .int rdg, .int 1, .int (nI w2), .int (nI h2), .ref m4, .int 0, .int 0, .int p0, .int q0, .int p1, .int q1, .int kp, .ref m5, .ref m6, .int (nI k), .int (nI sk), .int (nI tr), .int (nI co), .long ma, .long mc, .int mt, .int (nI b)])), (m4, .inl (cZ, 3600, .inl g))] → va_S A s.heap H locs → ∀ ls : Array Slot, lv_has ls 4 [(3, .int (nI i)), (0, .ref m0), (1, .int (nI w2)), (2, .int (nI h2))] → W pg l ev (headSpec wsX8_whiteReference ({ frames := 0, cells := 0, slots := 0, locals := 0 })).room s m ([.ref m0, .int (nI w2), .int (nI h2)]).toArray below meth cd H locs 0 0 (MQ below (va_Qv (fun _ : Unit => True) (hw_at (dC, dI) vwCl (ty3 cI cZ cJ) (fun _ : Unit => [(m0, .inr (7, [.int th, .ref m1, .int (nI w), .int (nI h), .int tp, .int ty, .ref m2, .ref m3, .int sf, .int rdg, .int 1, .int (nI w2), .int (nI h2), .ref m4, .int 0, .int 0, .int p0, .int q0, .int p1, .int q1, .int kp, .ref m5, .ref m6, .int (nI k), .int (nI sk), .int (nI tr), .int (nI co), .long ma, .long mc, .int mt, .int (nI b)])), (m4, .inl (cZ, 3600, .inl (fun _ => 0)))]) A) A) ([.ref m0, .int (nI w2), .int (nI h2)]).toArray s 0 0 A) (F0 m 27 ls []) := by
    intro fu
    induction fu with
    | zero =>
      intro i g hi hg hm
      omega
    | succ fu ih_27 =>
      intro i g hi hg hm H locs hP hD hS ls hl
      refine lv_iload_n hx hb dX8_whiteReference_27 rfl (lv_at hl 0 rfl) ?_
      refine lv_sipush (v := 3600) hx hb dX8_whiteReference_28 (by decide) ?_
      refine lv_icmp_ge (tgt := 47) hx hb dX8_whiteReference_31 (by decide) (fun c_31 => ?_) (fun c_31 => ?_)
      · have hP : va_P (dC, dI) vwCl [(m0, .inr (7, [.int th, .ref m1, .int (nI w), .int (nI h), .int tp, .int ty, .ref m2, .ref m3, .int sf, .int rdg, .int 1, .int (nI w2), .int (nI h2), .ref m4, .int 0, .int 0, .int p0, .int q0, .int p1, .int q1, .int kp, .ref m5, .ref m6, .int (nI k), .int (nI sk), .int (nI tr), .int (nI co), .long ma, .long mc, .int mt, .int (nI b)])), (m4, .inl (cZ, 3600, .inl (fun _ => 0)))] H := hw_arr (p := 1) (g := fun _ => 0) rfl (fun j hj => hg j (by rw [show (3600 : Int32) = nI 3600 from rfl, nI_leI (by omega) (by omega)] at c_31; omega)) hP
        have hD : va_D A [(m0, .inr (7, [.int th, .ref m1, .int (nI w), .int (nI h), .int tp, .int ty, .ref m2, .ref m3, .int sf, .int rdg, .int 1, .int (nI w2), .int (nI h2), .ref m4, .int 0, .int 0, .int p0, .int q0, .int p1, .int q1, .int kp, .ref m5, .ref m6, .int (nI k), .int (nI sk), .int (nI tr), .int (nI co), .long ma, .long mc, .int mt, .int (nI b)])), (m4, .inl (cZ, 3600, .inl (fun _ => 0)))] := hw_arrD (p := 1) (g := fun _ => 0) rfl hD
        have hP9 := hP
        have hD9 := hD
        exact W.vret hx hb hr (fun t ht hW => ⟨⟨(), rfl, trivial, by rw [ht]; exact hP9, va_K.moved hW.alike hK, hD9⟩, hS.F ht⟩) hS.2.2 dX8_whiteReference_47
      · have hi5 : i < 3600 := by rw [show (3600 : Int32) = nI 3600 from rfl, nI_leI (by omega) (by omega)] at c_31; omega
        refine lv_aload_n hx hb dX8_whiteReference_34 rfl (lv_at hl 1 rfl) ?_
        refine va_get (D := (dC, dI)) (ci := 7) (v := .ref m4) (C := RX8) (T := TX8) (N := 31) hx hb hts hiX8 hown hK hP 0 rfl rfl 13 (by decide) (hts (.fieldLink RX8 27 "RefineRegionsModel" "reference" "[Z") (by decide +kernel)) (fun _ h9 => h9) rfl dX8_whiteReference_35 ?_
        refine lv_iload_n hx hb dX8_whiteReference_38 rfl (lv_at hl 0 rfl) ?_
        refine lv_iconst (v := 0) hx hb dX8_whiteReference_39 (by decide) ?_
        refine va_zast hx hb hK hP hD hS 1 1 rfl rfl (vp_in_nI hi5 (by decide)) dX8_whiteReference_40 (fun H locs hP hD hS => ?_)
        have eA : upd g (nI i).toNatClampNeg (vp_nar .boolean 0) = upd g (nI i).toNatClampNeg 0 := by rw [hw_nar (Or.inl rfl)]
        rw [eA] at hP hD
        have hP : va_P (dC, dI) vwCl [(m0, .inr (7, [.int th, .ref m1, .int (nI w), .int (nI h), .int tp, .int ty, .ref m2, .ref m3, .int sf, .int rdg, .int 1, .int (nI w2), .int (nI h2), .ref m4, .int 0, .int 0, .int p0, .int q0, .int p1, .int q1, .int kp, .ref m5, .ref m6, .int (nI k), .int (nI sk), .int (nI tr), .int (nI co), .long ma, .long mc, .int mt, .int (nI b)])), (m4, .inl (cZ, 3600, .inl (upd g (nI i).toNatClampNeg 0)))] H := hP
        have hD : va_D A [(m0, .inr (7, [.int th, .ref m1, .int (nI w), .int (nI h), .int tp, .int ty, .ref m2, .ref m3, .int sf, .int rdg, .int 1, .int (nI w2), .int (nI h2), .ref m4, .int 0, .int 0, .int p0, .int q0, .int p1, .int q1, .int kp, .ref m5, .ref m6, .int (nI k), .int (nI sk), .int (nI tr), .int (nI co), .long ma, .long mc, .int mt, .int (nI b)])), (m4, .inl (cZ, 3600, .inl (upd g (nI i).toNatClampNeg 0)))] := hD
        refine lv_iinc (v := nI (i + 1)) (lv' := [(3, .int (nI (i + 1))), (0, .ref m0), (1, .int (nI w2)), (2, .int (nI h2))]) hx hb dX8_whiteReference_41 hl (k := 0) rfl (nI_1 i) (by decide) rfl (fun ls hl => ?_)
        refine lv_goto (tgt := 27) hx hb dX8_whiteReference_44 (by decide) ?_
        exact ih_27 (i + 1) (upd g (nI i).toNatClampNeg 0) (by omega) (sp_fill hg (by omega)) (by omega) _ _ hP hD hS ls (lv_sub hl [0, 1, 2, 3] rfl)
  exact loop_27 (3600 + 1) 0 rg (Nat.zero_le _) (fun j h => absurd h (Nat.not_lt_zero j)) (by omega) _ _ hP hD hS ls (lv_sub hl [0, 1, 2, 3] rfl)

set_option maxHeartbeats 4000000 in
set_option maxRecDepth 100000 in
/-- reference, where it is allowed -/
theorem c_X8_reference (l : Launch) (dC : Nat → ClassId) (dI : Nat → Nat → Nat) (cI cZ cJ : ClassId) (m0 : Nat) (m1 : Nat) (m2 : Nat) (m3 : Nat) (m4 : Nat) (m5 : Nat) (m6 : Nat) (th : Int32) (tp : Int32) (ty : Int32) (sf : Int32) (rdg : Int32) (rt : Int32) (dx : Int32) (dy : Int32) (p0 : Int32) (q0 : Int32) (p1 : Int32) (q1 : Int32) (kp : Int32) (w : Nat) (h : Nat) (rwd : Nat) (rht : Nat) (k : Nat) (sk : Nat) (tr : Nat) (co : Nat) (b : Nat) (ma : Int64) (mc : Int64) (mt : Int32) (rg : Nat → Int32) (w2 : Nat) (h2 : Nat) (hw2 : 1 ≤ w2 ∧ w2 ≤ 60) (hh2 : 1 ≤ h2 ∧ h2 ≤ 60) (sz : Nat) : Met l yX8_reference wsX8_reference ({ frames := 1, cells := 0, slots := 0, locals := 23 }) (hw_Pre (dC, dI) vwCl (ty3 cI cZ cJ) [(m0, .inr (7, [.int th, .ref m1, .int (nI w), .int (nI h), .int tp, .int ty, .ref m2, .ref m3, .int sf, .int rdg, .int rt, .int (nI rwd), .int (nI rht), .ref m4, .int dx, .int dy, .int p0, .int q0, .int p1, .int q1, .int kp, .ref m5, .ref m6, .int (nI k), .int (nI sk), .int (nI tr), .int (nI co), .long ma, .long mc, .int mt, .int (nI b)])), (m4, .inl (cZ, 3600, .inl rg))] sz [.ref m0, .int (nI w2), .int (nI h2)]) (va_Qv (fun _ : Unit => True) (hw_at (dC, dI) vwCl (ty3 cI cZ cJ) (fun _ : Unit => [(m0, .inr (7, [.int 0, .ref m1, .int (nI w), .int (nI h), .int tp, .int ty, .ref m2, .ref m3, .int sf, .int rdg, .int 1, .int (nI w2), .int (nI h2), .ref m4, .int 0, .int 0, .int p0, .int q0, .int p1, .int q1, .int kp, .ref m5, .ref m6, .int (nI k), .int (nI sk), .int (nI tr), .int (nI co), .long ma, .long mc, .int mt, .int (nI b)])), (m4, .inl (cZ, 3600, .inl (fun _ => 0)))]) (va_A [(m0, .inr (7, [.int th, .ref m1, .int (nI w), .int (nI h), .int tp, .int ty, .ref m2, .ref m3, .int sf, .int rdg, .int rt, .int (nI rwd), .int (nI rht), .ref m4, .int dx, .int dy, .int p0, .int q0, .int p1, .int q1, .int kp, .ref m5, .ref m6, .int (nI k), .int (nI sk), .int (nI tr), .int (nI co), .long ma, .long mc, .int mt, .int (nI b)])), (m4, .inl (cZ, 3600, .inl rg))] sz)) (va_A [(m0, .inr (7, [.int th, .ref m1, .int (nI w), .int (nI h), .int tp, .int ty, .ref m2, .ref m3, .int sf, .int rdg, .int rt, .int (nI rwd), .int (nI rht), .ref m4, .int dx, .int dy, .int p0, .int q0, .int p1, .int q1, .int kp, .ref m5, .ref m6, .int (nI k), .int (nI sk), .int (nI tr), .int (nI co), .long ma, .long mc, .int mt, .int (nI b)])), (m4, .inl (cZ, 3600, .inl rg))] sz)) 0 0 (va_A [(m0, .inr (7, [.int th, .ref m1, .int (nI w), .int (nI h), .int tp, .int ty, .ref m2, .ref m3, .int sf, .int rdg, .int rt, .int (nI rwd), .int (nI rht), .ref m4, .int dx, .int dy, .int p0, .int q0, .int p1, .int q1, .int kp, .ref m5, .ref m6, .int (nI k), .int (nI sk), .int (nI tr), .int (nI co), .long ma, .long mc, .int mt, .int (nI b)])), (m4, .inl (cZ, 3600, .inl rg))] sz) := by
  refine Met.ofW (cc := cX8_reference) (maxL := 3) (ret := none) (by decide) rfl ?_
  intro pg ev s m args below meth cd s₁ B hml hv
  obtain ⟨rfl, hsz, hP, hK, hN, hZ, hD0⟩ := hv
  have hx := B.exec
  have hb := B.bytes
  have hr := B.returns
  have hts := atoms_spec (ws := wsX8_reference) B.pre
  have hown : s.vm.findClass RX8 = some m.cls := findClass_of_methodNamed B.named
  have hlocks := B.notSynchronized
  subst hsz
  have hD := hD0.self (sz := s.heap.size)
  generalize hAe : va_A [(m0, .inr (7, [.int th, .ref m1, .int (nI w), .int (nI h), .int tp, .int ty, .ref m2, .ref m3, .int sf, .int rdg, .int rt, .int (nI rwd), .int (nI rht), .ref m4, .int dx, .int dy, .int p0, .int q0, .int p1, .int q1, .int kp, .ref m5, .ref m6, .int (nI k), .int (nI sk), .int (nI tr), .int (nI co), .long ma, .long mc, .int mt, .int (nI b)])), (m4, .inl (cZ, 3600, .inl rg))] s.heap.size = A at hD hZ ⊢
  have hA : ∀ q : Nat, s.heap.size ≤ q → A q := fun q h => by rw [← hAe]; exact Or.inr h
  have hS : va_S A s.heap s.heap [] := va_S.rf
  have hk : hw_K (dC, dI) vwCl (ty3 cI cZ cJ) A s := ⟨hK, hN, hZ⟩
  have hiX8 : ∀ w ∈ u_ws RX8 TX8 31, w ∈ wsX8_reference := by decide +kernel
  have hl := lv_entry ([.ref m0, .int (nI w2), .int (nI h2)]) (n := 3) (Nat.le_of_ble_eq_true rfl)
  rw [lg_entry_eq]
  generalize (lg_sl ([.ref m0, .int (nI w2), .int (nI h2)]) ++ List.replicate (3 - (lg_sl ([.ref m0, .int (nI w2), .int (nI h2)])).length) Slot.unset).toArray = ls at hl ⊢
  have hl : lv_has ls 3 [(0, .ref m0), (1, .int (nI w2)), (2, .int (nI h2))] := hl
  refine lv_aload_n hx hb dX8_reference_0 rfl (lv_at hl 0 rfl) ?_
  refine lv_iload_n hx hb dX8_reference_1 rfl (lv_at hl 1 rfl) ?_
  refine lv_iconst (v := 1) hx hb dX8_reference_2 (by decide) ?_
  refine lv_icmp_lt (tgt := 23) hx hb dX8_reference_3 (by decide) (fun c_3 => absurd c_3 (nI_nlt hw2.1 (by omega))) (fun c_3 => ?_)
  refine lv_iload_n hx hb dX8_reference_6 rfl (lv_at hl 1 rfl) ?_
  refine lv_bipush (v := 60) hx hb dX8_reference_7 (by decide) ?_
  refine lv_icmp_gt (tgt := 23) hx hb dX8_reference_9 (by decide) (fun c_9 => absurd c_9 (nI_nlt hw2.2 (by decide))) (fun c_9 => ?_)
  refine lv_iload_n hx hb dX8_reference_12 rfl (lv_at hl 2 rfl) ?_
  refine lv_iconst (v := 1) hx hb dX8_reference_13 (by decide) ?_
  refine lv_icmp_lt (tgt := 23) hx hb dX8_reference_14 (by decide) (fun c_14 => absurd c_14 (nI_nlt hh2.1 (by omega))) (fun c_14 => ?_)
  refine lv_iload_n hx hb dX8_reference_17 rfl (lv_at hl 2 rfl) ?_
  refine lv_bipush (v := 60) hx hb dX8_reference_18 (by decide) ?_
  refine lv_icmp_le (tgt := 27) hx hb dX8_reference_20 (by decide) (fun c_20 => ?_) (fun c_20 => absurd (nI_le hh2.2 (by decide)) c_20)
  refine lv_iconst (v := 0) hx hb dX8_reference_27 (by decide) ?_
  refine va_put (D := (dC, dI)) (ci := 7) (v := .int 0) (ty := .int) (C := RX8) (T := TX8) (N := 31) hx hb hts hiX8 tyX8 tyX8_ok nmX8 hown hK hP hD hS 0 rfl rfl 0 (by decide) (hts (.fieldLink RX8 48 "RefineRegionsModel" "thrown" "I") (by decide +kernel)) (fun _ h9 => h9) rfl (by decide +kernel) rfl rfl (Nat.le_of_ble_eq_true rfl) dX8_reference_28 (fun H locs hP hD hS => ?_)
  have hP : va_P (dC, dI) vwCl [(m0, .inr (7, [.int 0, .ref m1, .int (nI w), .int (nI h), .int tp, .int ty, .ref m2, .ref m3, .int sf, .int rdg, .int rt, .int (nI rwd), .int (nI rht), .ref m4, .int dx, .int dy, .int p0, .int q0, .int p1, .int q1, .int kp, .ref m5, .ref m6, .int (nI k), .int (nI sk), .int (nI tr), .int (nI co), .long ma, .long mc, .int mt, .int (nI b)])), (m4, .inl (cZ, 3600, .inl rg))] H := hP
  have hD : va_D A [(m0, .inr (7, [.int 0, .ref m1, .int (nI w), .int (nI h), .int tp, .int ty, .ref m2, .ref m3, .int sf, .int rdg, .int rt, .int (nI rwd), .int (nI rht), .ref m4, .int dx, .int dy, .int p0, .int q0, .int p1, .int q1, .int kp, .ref m5, .ref m6, .int (nI k), .int (nI sk), .int (nI tr), .int (nI co), .long ma, .long mc, .int mt, .int (nI b)])), (m4, .inl (cZ, 3600, .inl rg))] := hD
  refine lv_aload_n hx hb dX8_reference_31 rfl (lv_at hl 0 rfl) ?_
  refine va_get (D := (dC, dI)) (ci := 7) (v := .int 0) (C := RX8) (T := TX8) (N := 31) hx hb hts hiX8 hown hK hP 0 rfl rfl 0 (by decide) (hts (.fieldLink RX8 48 "RefineRegionsModel" "thrown" "I") (by decide +kernel)) (fun _ h9 => h9) rfl dX8_reference_32 ?_
  refine lv_if_ne (tgt := 44) hx hb dX8_reference_35 (by decide) (fun c9 => absurd c9 (by decide)) (fun _ => ?_)
  refine lv_aload_n hx hb dX8_reference_38 rfl (lv_at hl 0 rfl) ?_
  refine lv_iload_n hx hb dX8_reference_39 rfl (lv_at hl 1 rfl) ?_
  refine lv_iload_n hx hb dX8_reference_40 rfl (lv_at hl 2 rfl) ?_
  refine hw_callv (wr := []) (w2 := fun _ : Unit => [(m0, .inr (7, [.int 0, .ref m1, .int (nI w), .int (nI h), .int tp, .int ty, .ref m2, .ref m3, .int sf, .int rdg, .int 1, .int (nI w2), .int (nI h2), .ref m4, .int 0, .int 0, .int p0, .int q0, .int p1, .int q1, .int kp, .ref m5, .ref m6, .int (nI k), .int (nI sk), .int (nI tr), .int (nI co), .long ma, .long mc, .int mt, .int (nI b)])), (m4, .inl (cZ, 3600, .inl (fun _ => 0)))]) (va_runV (As := [.int (nI w2), .int (nI h2)]) (rest := []) ⟨hx, hb, hml, hown, hts⟩ (c_X8_whiteReference l dC dI cI cZ cJ m0 m1 m2 m3 m4 m5 m6 0 tp ty sf rdg rt dx dy p0 q0 p1 q1 kp w h rwd rht k sk tr co b ma mc mt rg w2 h2 H.size) (cwV 2 hts gX8_reference_X8_whiteReference rfl rfl rfl (by decide +kernel) ⟨Nat.le_of_ble_eq_true rfl, Nat.le_of_ble_eq_true rfl⟩) (hw_preV hP hD hS hA hk [0, 1] (by decide) rfl (ci := 7) (q0 := 0) rfl rfl) rfl rfl hl.1 rfl (lv_room (Nat.le_of_ble_eq_true rfl)) dX8_reference_41 ⟨Nat.le_of_ble_eq_true rfl, Nat.le_of_ble_eq_true rfl⟩) hP hD hS hA [0, 1] [] [0, 1] rfl rfl (by decide) (by decide) (by decide) (fun _ => rfl) (fun u_41 H locs hw hP hD hS => ?_)
  have hP : va_P (dC, dI) vwCl [(m0, .inr (7, [.int 0, .ref m1, .int (nI w), .int (nI h), .int tp, .int ty, .ref m2, .ref m3, .int sf, .int rdg, .int 1, .int (nI w2), .int (nI h2), .ref m4, .int 0, .int 0, .int p0, .int q0, .int p1, .int q1, .int kp, .ref m5, .ref m6, .int (nI k), .int (nI sk), .int (nI tr), .int (nI co), .long ma, .long mc, .int mt, .int (nI b)])), (m4, .inl (cZ, 3600, .inl (fun _ => 0)))] H := hP
  have hD : va_D A [(m0, .inr (7, [.int 0, .ref m1, .int (nI w), .int (nI h), .int tp, .int ty, .ref m2, .ref m3, .int sf, .int rdg, .int 1, .int (nI w2), .int (nI h2), .ref m4, .int 0, .int 0, .int p0, .int q0, .int p1, .int q1, .int kp, .ref m5, .ref m6, .int (nI k), .int (nI sk), .int (nI tr), .int (nI co), .long ma, .long mc, .int mt, .int (nI b)])), (m4, .inl (cZ, 3600, .inl (fun _ => 0)))] := hD
  have hP9 := hP
  have hD9 := hD
  exact W.vret hx hb hr (fun t ht hW => ⟨⟨(), rfl, trivial, by rw [ht]; exact hP9, va_K.moved hW.alike hK, hD9⟩, hS.F ht⟩) hS.2.2 dX8_reference_44

set_option maxHeartbeats 4000000 in
set_option maxRecDepth 100000 in
/-- reference, refused -/
theorem c_X8_reference_no (l : Launch) (dC : Nat → ClassId) (dI : Nat → Nat → Nat) (cI cZ cJ : ClassId) (m0 : Nat) (m1 : Nat) (m2 : Nat) (m3 : Nat) (m4 : Nat) (m5 : Nat) (m6 : Nat) (th : Int32) (tp : Int32) (ty : Int32) (sf : Int32) (rdg : Int32) (rt : Int32) (dx : Int32) (dy : Int32) (p0 : Int32) (q0 : Int32) (p1 : Int32) (q1 : Int32) (kp : Int32) (w : Nat) (h : Nat) (rwd : Nat) (rht : Nat) (k : Nat) (sk : Nat) (tr : Nat) (co : Nat) (b : Nat) (ma : Int64) (mc : Int64) (mt : Int32) (x : Int32) (y : Int32) (hno : sp_iw x 1 60 = 0 ∨ sp_iw y 1 60 = 0) (sz : Nat) : Met l yX8_reference wsX8_reference ({ frames := 0, cells := 0, slots := 0, locals := 0 }) (hw_Pre (dC, dI) vwCl (ty3 cI cZ cJ) [(m0, .inr (7, [.int th, .ref m1, .int (nI w), .int (nI h), .int tp, .int ty, .ref m2, .ref m3, .int sf, .int rdg, .int rt, .int (nI rwd), .int (nI rht), .ref m4, .int dx, .int dy, .int p0, .int q0, .int p1, .int q1, .int kp, .ref m5, .ref m6, .int (nI k), .int (nI sk), .int (nI tr), .int (nI co), .long ma, .long mc, .int mt, .int (nI b)]))] sz [.ref m0, .int x, .int y]) (va_Qv (fun _ : Unit => True) (hw_at (dC, dI) vwCl (ty3 cI cZ cJ) (fun _ : Unit => [(m0, .inr (7, [.int 1, .ref m1, .int (nI w), .int (nI h), .int tp, .int ty, .ref m2, .ref m3, .int sf, .int rdg, .int rt, .int (nI rwd), .int (nI rht), .ref m4, .int dx, .int dy, .int p0, .int q0, .int p1, .int q1, .int kp, .ref m5, .ref m6, .int (nI k), .int (nI sk), .int (nI tr), .int (nI co), .long ma, .long mc, .int mt, .int (nI b)]))]) (va_A [(m0, .inr (7, [.int th, .ref m1, .int (nI w), .int (nI h), .int tp, .int ty, .ref m2, .ref m3, .int sf, .int rdg, .int rt, .int (nI rwd), .int (nI rht), .ref m4, .int dx, .int dy, .int p0, .int q0, .int p1, .int q1, .int kp, .ref m5, .ref m6, .int (nI k), .int (nI sk), .int (nI tr), .int (nI co), .long ma, .long mc, .int mt, .int (nI b)]))] sz)) (va_A [(m0, .inr (7, [.int th, .ref m1, .int (nI w), .int (nI h), .int tp, .int ty, .ref m2, .ref m3, .int sf, .int rdg, .int rt, .int (nI rwd), .int (nI rht), .ref m4, .int dx, .int dy, .int p0, .int q0, .int p1, .int q1, .int kp, .ref m5, .ref m6, .int (nI k), .int (nI sk), .int (nI tr), .int (nI co), .long ma, .long mc, .int mt, .int (nI b)]))] sz)) 0 0 (va_A [(m0, .inr (7, [.int th, .ref m1, .int (nI w), .int (nI h), .int tp, .int ty, .ref m2, .ref m3, .int sf, .int rdg, .int rt, .int (nI rwd), .int (nI rht), .ref m4, .int dx, .int dy, .int p0, .int q0, .int p1, .int q1, .int kp, .ref m5, .ref m6, .int (nI k), .int (nI sk), .int (nI tr), .int (nI co), .long ma, .long mc, .int mt, .int (nI b)]))] sz) := by
  refine Met.ofW (cc := cX8_reference) (maxL := 3) (ret := none) (by decide) rfl ?_
  intro pg ev s m args below meth cd s₁ B hml hv
  obtain ⟨rfl, hsz, hP, hK, hN, hZ, hD0⟩ := hv
  have hx := B.exec
  have hb := B.bytes
  have hr := B.returns
  have hts := atoms_spec (ws := wsX8_reference) B.pre
  have hown : s.vm.findClass RX8 = some m.cls := findClass_of_methodNamed B.named
  have hlocks := B.notSynchronized
  subst hsz
  have hD := hD0.self (sz := s.heap.size)
  generalize hAe : va_A [(m0, .inr (7, [.int th, .ref m1, .int (nI w), .int (nI h), .int tp, .int ty, .ref m2, .ref m3, .int sf, .int rdg, .int rt, .int (nI rwd), .int (nI rht), .ref m4, .int dx, .int dy, .int p0, .int q0, .int p1, .int q1, .int kp, .ref m5, .ref m6, .int (nI k), .int (nI sk), .int (nI tr), .int (nI co), .long ma, .long mc, .int mt, .int (nI b)]))] s.heap.size = A at hD hZ ⊢
  have hA : ∀ q : Nat, s.heap.size ≤ q → A q := fun q h => by rw [← hAe]; exact Or.inr h
  have hS : va_S A s.heap s.heap [] := va_S.rf
  have hk : hw_K (dC, dI) vwCl (ty3 cI cZ cJ) A s := ⟨hK, hN, hZ⟩
  have hiX8 : ∀ w ∈ u_ws RX8 TX8 31, w ∈ wsX8_reference := by decide +kernel
  have hl := lv_entry ([.ref m0, .int x, .int y]) (n := 3) (Nat.le_of_ble_eq_true rfl)
  rw [lg_entry_eq]
  generalize (lg_sl ([.ref m0, .int x, .int y]) ++ List.replicate (3 - (lg_sl ([.ref m0, .int x, .int y])).length) Slot.unset).toArray = ls at hl ⊢
  have hl : lv_has ls 3 [(0, .ref m0), (1, .int x), (2, .int y)] := hl
  refine lv_aload_n hx hb dX8_reference_0 rfl (lv_at hl 0 rfl) ?_
  refine lv_iload_n hx hb dX8_reference_1 rfl (lv_at hl 1 rfl) ?_
  refine lv_iconst (v := 1) hx hb dX8_reference_2 (by decide) ?_
  refine lv_icmp_lt (tgt := 23) hx hb dX8_reference_3 (by decide) (fun c_3 => ?_) (fun c_3 => ?_)
  · refine lv_iconst (v := 1) hx hb dX8_reference_23 (by decide) ?_
    refine lv_goto (tgt := 28) hx hb dX8_reference_24 (by decide) ?_
    refine va_put (D := (dC, dI)) (ci := 7) (v := .int 1) (ty := .int) (C := RX8) (T := TX8) (N := 31) hx hb hts hiX8 tyX8 tyX8_ok nmX8 hown hK hP hD hS 0 rfl rfl 0 (by decide) (hts (.fieldLink RX8 48 "RefineRegionsModel" "thrown" "I") (by decide +kernel)) (fun _ h9 => h9) rfl (by decide +kernel) rfl rfl (Nat.le_of_ble_eq_true rfl) dX8_reference_28 (fun H locs hP hD hS => ?_)
    have hP : va_P (dC, dI) vwCl [(m0, .inr (7, [.int 1, .ref m1, .int (nI w), .int (nI h), .int tp, .int ty, .ref m2, .ref m3, .int sf, .int rdg, .int rt, .int (nI rwd), .int (nI rht), .ref m4, .int dx, .int dy, .int p0, .int q0, .int p1, .int q1, .int kp, .ref m5, .ref m6, .int (nI k), .int (nI sk), .int (nI tr), .int (nI co), .long ma, .long mc, .int mt, .int (nI b)]))] H := hP
    have hD : va_D A [(m0, .inr (7, [.int 1, .ref m1, .int (nI w), .int (nI h), .int tp, .int ty, .ref m2, .ref m3, .int sf, .int rdg, .int rt, .int (nI rwd), .int (nI rht), .ref m4, .int dx, .int dy, .int p0, .int q0, .int p1, .int q1, .int kp, .ref m5, .ref m6, .int (nI k), .int (nI sk), .int (nI tr), .int (nI co), .long ma, .long mc, .int mt, .int (nI b)]))] := hD
    refine lv_aload_n hx hb dX8_reference_31 rfl (lv_at hl 0 rfl) ?_
    refine va_get (D := (dC, dI)) (ci := 7) (v := .int 1) (C := RX8) (T := TX8) (N := 31) hx hb hts hiX8 hown hK hP 0 rfl rfl 0 (by decide) (hts (.fieldLink RX8 48 "RefineRegionsModel" "thrown" "I") (by decide +kernel)) (fun _ h9 => h9) rfl dX8_reference_32 ?_
    refine lv_if_ne (tgt := 44) hx hb dX8_reference_35 (by decide) (fun _ => ?_) (fun c9 => absurd c9 (by decide))
    have hP9 := hP
    have hD9 := hD
    exact W.vret hx hb hr (fun t ht hW => ⟨⟨(), rfl, trivial, by rw [ht]; exact hP9, va_K.moved hW.alike hK, hD9⟩, hS.F ht⟩) hS.2.2 dX8_reference_44
  · refine lv_iload_n hx hb dX8_reference_6 rfl (lv_at hl 1 rfl) ?_
    refine lv_bipush (v := 60) hx hb dX8_reference_7 (by decide) ?_
    refine lv_icmp_gt (tgt := 23) hx hb dX8_reference_9 (by decide) (fun c_9 => ?_) (fun c_9 => ?_)
    · refine lv_iconst (v := 1) hx hb dX8_reference_23 (by decide) ?_
      refine lv_goto (tgt := 28) hx hb dX8_reference_24 (by decide) ?_
      refine va_put (D := (dC, dI)) (ci := 7) (v := .int 1) (ty := .int) (C := RX8) (T := TX8) (N := 31) hx hb hts hiX8 tyX8 tyX8_ok nmX8 hown hK hP hD hS 0 rfl rfl 0 (by decide) (hts (.fieldLink RX8 48 "RefineRegionsModel" "thrown" "I") (by decide +kernel)) (fun _ h9 => h9) rfl (by decide +kernel) rfl rfl (Nat.le_of_ble_eq_true rfl) dX8_reference_28 (fun H locs hP hD hS => ?_)
      have hP : va_P (dC, dI) vwCl [(m0, .inr (7, [.int 1, .ref m1, .int (nI w), .int (nI h), .int tp, .int ty, .ref m2, .ref m3, .int sf, .int rdg, .int rt, .int (nI rwd), .int (nI rht), .ref m4, .int dx, .int dy, .int p0, .int q0, .int p1, .int q1, .int kp, .ref m5, .ref m6, .int (nI k), .int (nI sk), .int (nI tr), .int (nI co), .long ma, .long mc, .int mt, .int (nI b)]))] H := hP
      have hD : va_D A [(m0, .inr (7, [.int 1, .ref m1, .int (nI w), .int (nI h), .int tp, .int ty, .ref m2, .ref m3, .int sf, .int rdg, .int rt, .int (nI rwd), .int (nI rht), .ref m4, .int dx, .int dy, .int p0, .int q0, .int p1, .int q1, .int kp, .ref m5, .ref m6, .int (nI k), .int (nI sk), .int (nI tr), .int (nI co), .long ma, .long mc, .int mt, .int (nI b)]))] := hD
      refine lv_aload_n hx hb dX8_reference_31 rfl (lv_at hl 0 rfl) ?_
      refine va_get (D := (dC, dI)) (ci := 7) (v := .int 1) (C := RX8) (T := TX8) (N := 31) hx hb hts hiX8 hown hK hP 0 rfl rfl 0 (by decide) (hts (.fieldLink RX8 48 "RefineRegionsModel" "thrown" "I") (by decide +kernel)) (fun _ h9 => h9) rfl dX8_reference_32 ?_
      refine lv_if_ne (tgt := 44) hx hb dX8_reference_35 (by decide) (fun _ => ?_) (fun c9 => absurd c9 (by decide))
      have hP9 := hP
      have hD9 := hD
      exact W.vret hx hb hr (fun t ht hW => ⟨⟨(), rfl, trivial, by rw [ht]; exact hP9, va_K.moved hW.alike hK, hD9⟩, hS.F ht⟩) hS.2.2 dX8_reference_44
    · refine lv_iload_n hx hb dX8_reference_12 rfl (lv_at hl 2 rfl) ?_
      refine lv_iconst (v := 1) hx hb dX8_reference_13 (by decide) ?_
      refine lv_icmp_lt (tgt := 23) hx hb dX8_reference_14 (by decide) (fun c_14 => ?_) (fun c_14 => ?_)
      · refine lv_iconst (v := 1) hx hb dX8_reference_23 (by decide) ?_
        refine lv_goto (tgt := 28) hx hb dX8_reference_24 (by decide) ?_
        refine va_put (D := (dC, dI)) (ci := 7) (v := .int 1) (ty := .int) (C := RX8) (T := TX8) (N := 31) hx hb hts hiX8 tyX8 tyX8_ok nmX8 hown hK hP hD hS 0 rfl rfl 0 (by decide) (hts (.fieldLink RX8 48 "RefineRegionsModel" "thrown" "I") (by decide +kernel)) (fun _ h9 => h9) rfl (by decide +kernel) rfl rfl (Nat.le_of_ble_eq_true rfl) dX8_reference_28 (fun H locs hP hD hS => ?_)
        have hP : va_P (dC, dI) vwCl [(m0, .inr (7, [.int 1, .ref m1, .int (nI w), .int (nI h), .int tp, .int ty, .ref m2, .ref m3, .int sf, .int rdg, .int rt, .int (nI rwd), .int (nI rht), .ref m4, .int dx, .int dy, .int p0, .int q0, .int p1, .int q1, .int kp, .ref m5, .ref m6, .int (nI k), .int (nI sk), .int (nI tr), .int (nI co), .long ma, .long mc, .int mt, .int (nI b)]))] H := hP
        have hD : va_D A [(m0, .inr (7, [.int 1, .ref m1, .int (nI w), .int (nI h), .int tp, .int ty, .ref m2, .ref m3, .int sf, .int rdg, .int rt, .int (nI rwd), .int (nI rht), .ref m4, .int dx, .int dy, .int p0, .int q0, .int p1, .int q1, .int kp, .ref m5, .ref m6, .int (nI k), .int (nI sk), .int (nI tr), .int (nI co), .long ma, .long mc, .int mt, .int (nI b)]))] := hD
        refine lv_aload_n hx hb dX8_reference_31 rfl (lv_at hl 0 rfl) ?_
        refine va_get (D := (dC, dI)) (ci := 7) (v := .int 1) (C := RX8) (T := TX8) (N := 31) hx hb hts hiX8 hown hK hP 0 rfl rfl 0 (by decide) (hts (.fieldLink RX8 48 "RefineRegionsModel" "thrown" "I") (by decide +kernel)) (fun _ h9 => h9) rfl dX8_reference_32 ?_
        refine lv_if_ne (tgt := 44) hx hb dX8_reference_35 (by decide) (fun _ => ?_) (fun c9 => absurd c9 (by decide))
        have hP9 := hP
        have hD9 := hD
        exact W.vret hx hb hr (fun t ht hW => ⟨⟨(), rfl, trivial, by rw [ht]; exact hP9, va_K.moved hW.alike hK, hD9⟩, hS.F ht⟩) hS.2.2 dX8_reference_44
      · refine lv_iload_n hx hb dX8_reference_17 rfl (lv_at hl 2 rfl) ?_
        refine lv_bipush (v := 60) hx hb dX8_reference_18 (by decide) ?_
        refine lv_icmp_le (tgt := 27) hx hb dX8_reference_20 (by decide) (fun c_20 => absurd c_20 (fun h9 => sp_iw_2no hno c_3 c_9 c_14 (Int32.not_lt.mpr h9))) (fun c_20 => ?_)
        refine lv_iconst (v := 1) hx hb dX8_reference_23 (by decide) ?_
        refine lv_goto (tgt := 28) hx hb dX8_reference_24 (by decide) ?_
        refine va_put (D := (dC, dI)) (ci := 7) (v := .int 1) (ty := .int) (C := RX8) (T := TX8) (N := 31) hx hb hts hiX8 tyX8 tyX8_ok nmX8 hown hK hP hD hS 0 rfl rfl 0 (by decide) (hts (.fieldLink RX8 48 "RefineRegionsModel" "thrown" "I") (by decide +kernel)) (fun _ h9 => h9) rfl (by decide +kernel) rfl rfl (Nat.le_of_ble_eq_true rfl) dX8_reference_28 (fun H locs hP hD hS => ?_)
        have hP : va_P (dC, dI) vwCl [(m0, .inr (7, [.int 1, .ref m1, .int (nI w), .int (nI h), .int tp, .int ty, .ref m2, .ref m3, .int sf, .int rdg, .int rt, .int (nI rwd), .int (nI rht), .ref m4, .int dx, .int dy, .int p0, .int q0, .int p1, .int q1, .int kp, .ref m5, .ref m6, .int (nI k), .int (nI sk), .int (nI tr), .int (nI co), .long ma, .long mc, .int mt, .int (nI b)]))] H := hP
        have hD : va_D A [(m0, .inr (7, [.int 1, .ref m1, .int (nI w), .int (nI h), .int tp, .int ty, .ref m2, .ref m3, .int sf, .int rdg, .int rt, .int (nI rwd), .int (nI rht), .ref m4, .int dx, .int dy, .int p0, .int q0, .int p1, .int q1, .int kp, .ref m5, .ref m6, .int (nI k), .int (nI sk), .int (nI tr), .int (nI co), .long ma, .long mc, .int mt, .int (nI b)]))] := hD
        refine lv_aload_n hx hb dX8_reference_31 rfl (lv_at hl 0 rfl) ?_
        refine va_get (D := (dC, dI)) (ci := 7) (v := .int 1) (C := RX8) (T := TX8) (N := 31) hx hb hts hiX8 hown hK hP 0 rfl rfl 0 (by decide) (hts (.fieldLink RX8 48 "RefineRegionsModel" "thrown" "I") (by decide +kernel)) (fun _ h9 => h9) rfl dX8_reference_32 ?_
        refine lv_if_ne (tgt := 44) hx hb dX8_reference_35 (by decide) (fun _ => ?_) (fun c9 => absurd c9 (by decide))
        have hP9 := hP
        have hD9 := hD
        exact W.vret hx hb hr (fun t ht hW => ⟨⟨(), rfl, trivial, by rw [ht]; exact hP9, va_K.moved hW.alike hK, hD9⟩, hS.F ht⟩) hS.2.2 dX8_reference_44

set_option maxHeartbeats 4000000 in
set_option maxRecDepth 100000 in
/-- refer, where there is such a pixel -/
theorem c_X8_refer (l : Launch) (dC : Nat → ClassId) (dI : Nat → Nat → Nat) (cI cZ cJ : ClassId) (m0 : Nat) (m1 : Nat) (m2 : Nat) (m3 : Nat) (m4 : Nat) (m5 : Nat) (m6 : Nat) (th : Int32) (tp : Int32) (ty : Int32) (sf : Int32) (rdg : Int32) (dx : Int32) (dy : Int32) (p0 : Int32) (q0 : Int32) (p1 : Int32) (q1 : Int32) (kp : Int32) (w : Nat) (h : Nat) (rwd : Nat) (rht : Nat) (k : Nat) (sk : Nat) (tr : Nat) (co : Nat) (b : Nat) (ma : Int64) (mc : Int64) (mt : Int32) (rg : Nat → Int32) (x : Int32) (y : Int32) (bb : Bool) (hrw : rwd ≤ 60) (hrh : rht ≤ 60) (h01 : sp_01 rg) (hxy : ¬ sp_ho (nI rwd) (nI rht) x y = 0) (sz : Nat) : Met l yX8_refer wsX8_refer ({ frames := 0, cells := 0, slots := 0, locals := 0 }) (hw_Pre (dC, dI) vwCl (ty3 cI cZ cJ) [(m0, .inr (7, [.int th, .ref m1, .int (nI w), .int (nI h), .int tp, .int ty, .ref m2, .ref m3, .int sf, .int rdg, .int 1, .int (nI rwd), .int (nI rht), .ref m4, .int dx, .int dy, .int p0, .int q0, .int p1, .int q1, .int kp, .ref m5, .ref m6, .int (nI k), .int (nI sk), .int (nI tr), .int (nI co), .long ma, .long mc, .int mt, .int (nI b)])), (m4, .inl (cZ, 3600, .inl rg))] sz [.ref m0, .int x, .int y, .int (sp_z bb)]) (va_Qi (fun (r : Int32) (_ : Unit) => r = sp_px (nI 60) (nI rwd) (nI rht) rg x y) (hw_at (dC, dI) vwCl (ty3 cI cZ cJ) (fun _ : Unit => [(m0, .inr (7, [.int 0, .ref m1, .int (nI w), .int (nI h), .int tp, .int ty, .ref m2, .ref m3, .int sf, .int rdg, .int 1, .int (nI rwd), .int (nI rht), .ref m4, .int dx, .int dy, .int p0, .int q0, .int p1, .int q1, .int kp, .ref m5, .ref m6, .int (nI k), .int (nI sk), .int (nI tr), .int (nI co), .long ma, .long mc, .int mt, .int (nI b)])), (m4, .inl (cZ, 3600, .inl (sp_pt (nI 60) (nI rwd) (nI rht) rg x y (sp_z bb))))]) (va_A [(m0, .inr (7, [.int th, .ref m1, .int (nI w), .int (nI h), .int tp, .int ty, .ref m2, .ref m3, .int sf, .int rdg, .int 1, .int (nI rwd), .int (nI rht), .ref m4, .int dx, .int dy, .int p0, .int q0, .int p1, .int q1, .int kp, .ref m5, .ref m6, .int (nI k), .int (nI sk), .int (nI tr), .int (nI co), .long ma, .long mc, .int mt, .int (nI b)])), (m4, .inl (cZ, 3600, .inl rg))] sz)) (va_A [(m0, .inr (7, [.int th, .ref m1, .int (nI w), .int (nI h), .int tp, .int ty, .ref m2, .ref m3, .int sf, .int rdg, .int 1, .int (nI rwd), .int (nI rht), .ref m4, .int dx, .int dy, .int p0, .int q0, .int p1, .int q1, .int kp, .ref m5, .ref m6, .int (nI k), .int (nI sk), .int (nI tr), .int (nI co), .long ma, .long mc, .int mt, .int (nI b)])), (m4, .inl (cZ, 3600, .inl rg))] sz)) 0 0 (va_A [(m0, .inr (7, [.int th, .ref m1, .int (nI w), .int (nI h), .int tp, .int ty, .ref m2, .ref m3, .int sf, .int rdg, .int 1, .int (nI rwd), .int (nI rht), .ref m4, .int dx, .int dy, .int p0, .int q0, .int p1, .int q1, .int kp, .ref m5, .ref m6, .int (nI k), .int (nI sk), .int (nI tr), .int (nI co), .long ma, .long mc, .int mt, .int (nI b)])), (m4, .inl (cZ, 3600, .inl rg))] sz) := by
  refine Met.ofW (cc := cX8_refer) (maxL := 5) (ret := (some .boolean)) (by decide) rfl ?_
  intro pg ev s m args below meth cd s₁ B hml hv
  obtain ⟨rfl, hsz, hP, hK, hN, hZ, hD0⟩ := hv
  have hx := B.exec
  have hb := B.bytes
  have hr := B.returns
  have hts := atoms_spec (ws := wsX8_refer) B.pre
  have hown : s.vm.findClass RX8 = some m.cls := findClass_of_methodNamed B.named
  have hlocks := B.notSynchronized
  subst hsz
  have hD := hD0.self (sz := s.heap.size)
  generalize hAe : va_A [(m0, .inr (7, [.int th, .ref m1, .int (nI w), .int (nI h), .int tp, .int ty, .ref m2, .ref m3, .int sf, .int rdg, .int 1, .int (nI rwd), .int (nI rht), .ref m4, .int dx, .int dy, .int p0, .int q0, .int p1, .int q1, .int kp, .ref m5, .ref m6, .int (nI k), .int (nI sk), .int (nI tr), .int (nI co), .long ma, .long mc, .int mt, .int (nI b)])), (m4, .inl (cZ, 3600, .inl rg))] s.heap.size = A at hD hZ ⊢
  have hA : ∀ q : Nat, s.heap.size ≤ q → A q := fun q h => by rw [← hAe]; exact Or.inr h
  have hS : va_S A s.heap s.heap [] := va_S.rf
  have hk : hw_K (dC, dI) vwCl (ty3 cI cZ cJ) A s := ⟨hK, hN, hZ⟩
  have hiX8 : ∀ w ∈ u_ws RX8 TX8 31, w ∈ wsX8_refer := by decide +kernel
  have hl := lv_entry ([.ref m0, .int x, .int y, .int (sp_z bb)]) (n := 5) (Nat.le_of_ble_eq_true rfl)
  rw [lg_entry_eq]
  generalize (lg_sl ([.ref m0, .int x, .int y, .int (sp_z bb)]) ++ List.replicate (5 - (lg_sl ([.ref m0, .int x, .int y, .int (sp_z bb)])).length) Slot.unset).toArray = ls at hl ⊢
  have hl : lv_has ls 5 [(0, .ref m0), (1, .int x), (2, .int y), (3, .int (sp_z bb))] := hl
  refine lv_aload_n hx hb dX8_refer_0 rfl (lv_at hl 0 rfl) ?_
  refine lv_aload_n hx hb dX8_refer_1 rfl (lv_at hl 0 rfl) ?_
  refine va_get (D := (dC, dI)) (ci := 7) (v := .int 1) (C := RX8) (T := TX8) (N := 31) hx hb hts hiX8 hown hK hP 0 rfl rfl 10 (by decide) (hts (.fieldLink RX8 65 "RefineRegionsModel" "hasReference" "Z") (by decide +kernel)) (fun _ h9 => h9) rfl dX8_refer_2 ?_
  refine lv_if_ne (tgt := 12) hx hb dX8_refer_5 (by decide) (fun _ => ?_) (fun c9 => absurd c9 (by decide))
  refine lv_iload_n hx hb dX8_refer_12 rfl (lv_at hl 1 rfl) ?_
  refine lv_if_lt (tgt := 36) hx hb dX8_refer_13 (by decide) (fun c_13 => absurd c_13 (fun h9 => sp_ho_no hxy (Or.inl h9))) (fun c_13 => ?_)
  refine lv_iload_n hx hb dX8_refer_16 rfl (lv_at hl 2 rfl) ?_
  refine lv_if_lt (tgt := 36) hx hb dX8_refer_17 (by decide) (fun c_17 => absurd c_17 (fun h9 => sp_ho_no hxy (Or.inr (Or.inr (Or.inl h9))))) (fun c_17 => ?_)
  refine lv_iload_n hx hb dX8_refer_20 rfl (lv_at hl 1 rfl) ?_
  refine lv_aload_n hx hb dX8_refer_21 rfl (lv_at hl 0 rfl) ?_
  refine va_get (D := (dC, dI)) (ci := 7) (v := .int (nI rwd)) (C := RX8) (T := TX8) (N := 31) hx hb hts hiX8 hown hK hP 0 rfl rfl 11 (by decide) (hts (.fieldLink RX8 68 "RefineRegionsModel" "wide" "I") (by decide +kernel)) (fun _ h9 => h9) rfl dX8_refer_22 ?_
  refine lv_icmp_ge (tgt := 36) hx hb dX8_refer_25 (by decide) (fun c_25 => absurd c_25 (fun h9 => sp_ho_no hxy (Or.inr (Or.inl h9)))) (fun c_25 => ?_)
  refine lv_iload_n hx hb dX8_refer_28 rfl (lv_at hl 2 rfl) ?_
  refine lv_aload_n hx hb dX8_refer_29 rfl (lv_at hl 0 rfl) ?_
  refine va_get (D := (dC, dI)) (ci := 7) (v := .int (nI rht)) (C := RX8) (T := TX8) (N := 31) hx hb hts hiX8 hown hK hP 0 rfl rfl 12 (by decide) (hts (.fieldLink RX8 71 "RefineRegionsModel" "high" "I") (by decide +kernel)) (fun _ h9 => h9) rfl dX8_refer_30 ?_
  refine lv_icmp_lt (tgt := 40) hx hb dX8_refer_33 (by decide) (fun c_33 => ?_) (fun c_33 => absurd (Int32.not_le.mp (fun h9 => sp_ho_no hxy (Or.inr (Or.inr (Or.inr h9))))) c_33)
  refine lv_iconst (v := 0) hx hb dX8_refer_40 (by decide) ?_
  refine va_put (D := (dC, dI)) (ci := 7) (v := .int 0) (ty := .int) (C := RX8) (T := TX8) (N := 31) hx hb hts hiX8 tyX8 tyX8_ok nmX8 hown hK hP hD hS 0 rfl rfl 0 (by decide) (hts (.fieldLink RX8 48 "RefineRegionsModel" "thrown" "I") (by decide +kernel)) (fun _ h9 => h9) rfl (by decide +kernel) rfl rfl (Nat.le_of_ble_eq_true rfl) dX8_refer_41 (fun H locs hP hD hS => ?_)
  have hP : va_P (dC, dI) vwCl [(m0, .inr (7, [.int 0, .ref m1, .int (nI w), .int (nI h), .int tp, .int ty, .ref m2, .ref m3, .int sf, .int rdg, .int 1, .int (nI rwd), .int (nI rht), .ref m4, .int dx, .int dy, .int p0, .int q0, .int p1, .int q1, .int kp, .ref m5, .ref m6, .int (nI k), .int (nI sk), .int (nI tr), .int (nI co), .long ma, .long mc, .int mt, .int (nI b)])), (m4, .inl (cZ, 3600, .inl rg))] H := hP
  have hD : va_D A [(m0, .inr (7, [.int 0, .ref m1, .int (nI w), .int (nI h), .int tp, .int ty, .ref m2, .ref m3, .int sf, .int rdg, .int 1, .int (nI rwd), .int (nI rht), .ref m4, .int dx, .int dy, .int p0, .int q0, .int p1, .int q1, .int kp, .ref m5, .ref m6, .int (nI k), .int (nI sk), .int (nI tr), .int (nI co), .long ma, .long mc, .int mt, .int (nI b)])), (m4, .inl (cZ, 3600, .inl rg))] := hD
  refine lv_aload_n hx hb dX8_refer_44 rfl (lv_at hl 0 rfl) ?_
  refine va_get (D := (dC, dI)) (ci := 7) (v := .int 0) (C := RX8) (T := TX8) (N := 31) hx hb hts hiX8 hown hK hP 0 rfl rfl 0 (by decide) (hts (.fieldLink RX8 48 "RefineRegionsModel" "thrown" "I") (by decide +kernel)) (fun _ h9 => h9) rfl dX8_refer_45 ?_
  refine lv_if_le (tgt := 53) hx hb dX8_refer_48 (by decide) (fun _ => ?_) (fun c9 => absurd (by decide) c9)
  refine lv_aload_n hx hb dX8_refer_53 rfl (lv_at hl 0 rfl) ?_
  refine va_get (D := (dC, dI)) (ci := 7) (v := .ref m4) (C := RX8) (T := TX8) (N := 31) hx hb hts hiX8 hown hK hP 0 rfl rfl 13 (by decide) (hts (.fieldLink RX8 27 "RefineRegionsModel" "reference" "[Z") (by decide +kernel)) (fun _ h9 => h9) rfl dX8_refer_54 ?_
  refine lv_bipush (v := 60) hx hb dX8_refer_57 (by decide) ?_
  refine lv_iload_n hx hb dX8_refer_59 rfl (lv_at hl 2 rfl) ?_
  refine lv_imul hx hb dX8_refer_60 ?_
  refine lv_iload_n hx hb dX8_refer_61 rfl (lv_at hl 1 rfl) ?_
  refine lv_iadd hx hb dX8_refer_62 ?_
  refine va_zald hx hb hK hP 1 1 rfl rfl (by rw [sp_60]; exact sp_ho_ix (n := 60) (by decide) hrw hrh hxy) dX8_refer_63 ?_
  refine hw_i (y := sp_px (nI 60) (nI rwd) (nI rht) rg x y) (by rw [sp_px_ho1 hxy, sp_60]) ?_
  refine lv_istore (lv' := [(4, .int (sp_px (nI 60) (nI rwd) (nI rht) rg x y)), (0, .ref m0), (1, .int x), (2, .int y), (3, .int (sp_z bb))]) hx hb dX8_refer_64 hl (by decide) rfl (fun ls hl => ?_)
  refine lv_aload_n hx hb dX8_refer_66 rfl (lv_at hl 1 rfl) ?_
  refine va_get (D := (dC, dI)) (ci := 7) (v := .ref m4) (C := RX8) (T := TX8) (N := 31) hx hb hts hiX8 hown hK hP 0 rfl rfl 13 (by decide) (hts (.fieldLink RX8 27 "RefineRegionsModel" "reference" "[Z") (by decide +kernel)) (fun _ h9 => h9) rfl dX8_refer_67 ?_
  refine lv_bipush (v := 60) hx hb dX8_refer_70 (by decide) ?_
  refine lv_iload_n hx hb dX8_refer_72 rfl (lv_at hl 3 rfl) ?_
  refine lv_imul hx hb dX8_refer_73 ?_
  refine lv_iload_n hx hb dX8_refer_74 rfl (lv_at hl 2 rfl) ?_
  refine lv_iadd hx hb dX8_refer_75 ?_
  refine lv_iload_n hx hb dX8_refer_76 rfl (lv_at hl 4 rfl) ?_
  refine va_zast hx hb hK hP hD hS 1 1 rfl rfl (by rw [sp_60]; exact sp_ho_ix (n := 60) (by decide) hrw hrh hxy) dX8_refer_77 (fun H locs hP hD hS => ?_)
  have eA : upd rg ((60 * y) + x).toNatClampNeg (vp_nar .boolean (sp_z bb)) = sp_pt (nI 60) (nI rwd) (nI rht) rg x y (sp_z bb) := by rw [sp_pt_in hxy, hw_nar (sp_z_01 _), sp_60]
  rw [eA] at hP hD
  have hP : va_P (dC, dI) vwCl [(m0, .inr (7, [.int 0, .ref m1, .int (nI w), .int (nI h), .int tp, .int ty, .ref m2, .ref m3, .int sf, .int rdg, .int 1, .int (nI rwd), .int (nI rht), .ref m4, .int dx, .int dy, .int p0, .int q0, .int p1, .int q1, .int kp, .ref m5, .ref m6, .int (nI k), .int (nI sk), .int (nI tr), .int (nI co), .long ma, .long mc, .int mt, .int (nI b)])), (m4, .inl (cZ, 3600, .inl (sp_pt (nI 60) (nI rwd) (nI rht) rg x y (sp_z bb))))] H := hP
  have hD : va_D A [(m0, .inr (7, [.int 0, .ref m1, .int (nI w), .int (nI h), .int tp, .int ty, .ref m2, .ref m3, .int sf, .int rdg, .int 1, .int (nI rwd), .int (nI rht), .ref m4, .int dx, .int dy, .int p0, .int q0, .int p1, .int q1, .int kp, .ref m5, .ref m6, .int (nI k), .int (nI sk), .int (nI tr), .int (nI co), .long ma, .long mc, .int mt, .int (nI b)])), (m4, .inl (cZ, 3600, .inl (sp_pt (nI 60) (nI rwd) (nI rht) rg x y (sp_z bb))))] := hD
  refine lv_iload hx hb dX8_refer_78 (lv_at hl 0 rfl) ?_
  have hP9 := hP
  have hD9 := hD
  exact W.zret (v := sp_px (nI 60) (nI rwd) (nI rht) rg x y) hx hb hr (hw_z (sp_px_02 h01 _ _)) (fun t ht hW => ⟨⟨sp_px (nI 60) (nI rwd) (nI rht) rg x y, (), rfl, rfl, by rw [ht]; exact hP9, va_K.moved hW.alike hK, hD9⟩, hS.F ht⟩) hS.2.2 dX8_refer_80

set_option maxHeartbeats 4000000 in
set_option maxRecDepth 100000 in
/-- refer, refused 1 -/
theorem c_X8_refer_no1 (l : Launch) (dC : Nat → ClassId) (dI : Nat → Nat → Nat) (cI cZ cJ : ClassId) (m0 : Nat) (m1 : Nat) (m2 : Nat) (m3 : Nat) (m4 : Nat) (m5 : Nat) (m6 : Nat) (th : Int32) (tp : Int32) (ty : Int32) (sf : Int32) (rdg : Int32) (dx : Int32) (dy : Int32) (p0 : Int32) (q0 : Int32) (p1 : Int32) (q1 : Int32) (kp : Int32) (w : Nat) (h : Nat) (rwd : Nat) (rht : Nat) (k : Nat) (sk : Nat) (tr : Nat) (co : Nat) (b : Nat) (ma : Int64) (mc : Int64) (mt : Int32) (x : Int32) (y : Int32) (bb : Bool) (sz : Nat) : Met l yX8_refer wsX8_refer ({ frames := 0, cells := 0, slots := 0, locals := 0 }) (hw_Pre (dC, dI) vwCl (ty3 cI cZ cJ) [(m0, .inr (7, [.int th, .ref m1, .int (nI w), .int (nI h), .int tp, .int ty, .ref m2, .ref m3, .int sf, .int rdg, .int 0, .int (nI rwd), .int (nI rht), .ref m4, .int dx, .int dy, .int p0, .int q0, .int p1, .int q1, .int kp, .ref m5, .ref m6, .int (nI k), .int (nI sk), .int (nI tr), .int (nI co), .long ma, .long mc, .int mt, .int (nI b)]))] sz [.ref m0, .int x, .int y, .int (sp_z bb)]) (va_Qi (fun (r : Int32) (_ : Unit) => r = 0) (hw_at (dC, dI) vwCl (ty3 cI cZ cJ) (fun _ : Unit => [(m0, .inr (7, [.int 1, .ref m1, .int (nI w), .int (nI h), .int tp, .int ty, .ref m2, .ref m3, .int sf, .int rdg, .int 0, .int (nI rwd), .int (nI rht), .ref m4, .int dx, .int dy, .int p0, .int q0, .int p1, .int q1, .int kp, .ref m5, .ref m6, .int (nI k), .int (nI sk), .int (nI tr), .int (nI co), .long ma, .long mc, .int mt, .int (nI b)]))]) (va_A [(m0, .inr (7, [.int th, .ref m1, .int (nI w), .int (nI h), .int tp, .int ty, .ref m2, .ref m3, .int sf, .int rdg, .int 0, .int (nI rwd), .int (nI rht), .ref m4, .int dx, .int dy, .int p0, .int q0, .int p1, .int q1, .int kp, .ref m5, .ref m6, .int (nI k), .int (nI sk), .int (nI tr), .int (nI co), .long ma, .long mc, .int mt, .int (nI b)]))] sz)) (va_A [(m0, .inr (7, [.int th, .ref m1, .int (nI w), .int (nI h), .int tp, .int ty, .ref m2, .ref m3, .int sf, .int rdg, .int 0, .int (nI rwd), .int (nI rht), .ref m4, .int dx, .int dy, .int p0, .int q0, .int p1, .int q1, .int kp, .ref m5, .ref m6, .int (nI k), .int (nI sk), .int (nI tr), .int (nI co), .long ma, .long mc, .int mt, .int (nI b)]))] sz)) 0 0 (va_A [(m0, .inr (7, [.int th, .ref m1, .int (nI w), .int (nI h), .int tp, .int ty, .ref m2, .ref m3, .int sf, .int rdg, .int 0, .int (nI rwd), .int (nI rht), .ref m4, .int dx, .int dy, .int p0, .int q0, .int p1, .int q1, .int kp, .ref m5, .ref m6, .int (nI k), .int (nI sk), .int (nI tr), .int (nI co), .long ma, .long mc, .int mt, .int (nI b)]))] sz) := by
  refine Met.ofW (cc := cX8_refer) (maxL := 5) (ret := (some .boolean)) (by decide) rfl ?_
  intro pg ev s m args below meth cd s₁ B hml hv
  obtain ⟨rfl, hsz, hP, hK, hN, hZ, hD0⟩ := hv
  have hx := B.exec
  have hb := B.bytes
  have hr := B.returns
  have hts := atoms_spec (ws := wsX8_refer) B.pre
  have hown : s.vm.findClass RX8 = some m.cls := findClass_of_methodNamed B.named
  have hlocks := B.notSynchronized
  subst hsz
  have hD := hD0.self (sz := s.heap.size)
  generalize hAe : va_A [(m0, .inr (7, [.int th, .ref m1, .int (nI w), .int (nI h), .int tp, .int ty, .ref m2, .ref m3, .int sf, .int rdg, .int 0, .int (nI rwd), .int (nI rht), .ref m4, .int dx, .int dy, .int p0, .int q0, .int p1, .int q1, .int kp, .ref m5, .ref m6, .int (nI k), .int (nI sk), .int (nI tr), .int (nI co), .long ma, .long mc, .int mt, .int (nI b)]))] s.heap.size = A at hD hZ ⊢
  have hA : ∀ q : Nat, s.heap.size ≤ q → A q := fun q h => by rw [← hAe]; exact Or.inr h
  have hS : va_S A s.heap s.heap [] := va_S.rf
  have hk : hw_K (dC, dI) vwCl (ty3 cI cZ cJ) A s := ⟨hK, hN, hZ⟩
  have hiX8 : ∀ w ∈ u_ws RX8 TX8 31, w ∈ wsX8_refer := by decide +kernel
  have hl := lv_entry ([.ref m0, .int x, .int y, .int (sp_z bb)]) (n := 5) (Nat.le_of_ble_eq_true rfl)
  rw [lg_entry_eq]
  generalize (lg_sl ([.ref m0, .int x, .int y, .int (sp_z bb)]) ++ List.replicate (5 - (lg_sl ([.ref m0, .int x, .int y, .int (sp_z bb)])).length) Slot.unset).toArray = ls at hl ⊢
  have hl : lv_has ls 5 [(0, .ref m0), (1, .int x), (2, .int y), (3, .int (sp_z bb))] := hl
  refine lv_aload_n hx hb dX8_refer_0 rfl (lv_at hl 0 rfl) ?_
  refine lv_aload_n hx hb dX8_refer_1 rfl (lv_at hl 0 rfl) ?_
  refine va_get (D := (dC, dI)) (ci := 7) (v := .int 0) (C := RX8) (T := TX8) (N := 31) hx hb hts hiX8 hown hK hP 0 rfl rfl 10 (by decide) (hts (.fieldLink RX8 65 "RefineRegionsModel" "hasReference" "Z") (by decide +kernel)) (fun _ h9 => h9) rfl dX8_refer_2 ?_
  refine lv_if_ne (tgt := 12) hx hb dX8_refer_5 (by decide) (fun c9 => absurd c9 (by decide)) (fun _ => ?_)
  refine lv_iconst (v := 1) hx hb dX8_refer_8 (by decide) ?_
  refine lv_goto (tgt := 41) hx hb dX8_refer_9 (by decide) ?_
  refine va_put (D := (dC, dI)) (ci := 7) (v := .int 1) (ty := .int) (C := RX8) (T := TX8) (N := 31) hx hb hts hiX8 tyX8 tyX8_ok nmX8 hown hK hP hD hS 0 rfl rfl 0 (by decide) (hts (.fieldLink RX8 48 "RefineRegionsModel" "thrown" "I") (by decide +kernel)) (fun _ h9 => h9) rfl (by decide +kernel) rfl rfl (Nat.le_of_ble_eq_true rfl) dX8_refer_41 (fun H locs hP hD hS => ?_)
  have hP : va_P (dC, dI) vwCl [(m0, .inr (7, [.int 1, .ref m1, .int (nI w), .int (nI h), .int tp, .int ty, .ref m2, .ref m3, .int sf, .int rdg, .int 0, .int (nI rwd), .int (nI rht), .ref m4, .int dx, .int dy, .int p0, .int q0, .int p1, .int q1, .int kp, .ref m5, .ref m6, .int (nI k), .int (nI sk), .int (nI tr), .int (nI co), .long ma, .long mc, .int mt, .int (nI b)]))] H := hP
  have hD : va_D A [(m0, .inr (7, [.int 1, .ref m1, .int (nI w), .int (nI h), .int tp, .int ty, .ref m2, .ref m3, .int sf, .int rdg, .int 0, .int (nI rwd), .int (nI rht), .ref m4, .int dx, .int dy, .int p0, .int q0, .int p1, .int q1, .int kp, .ref m5, .ref m6, .int (nI k), .int (nI sk), .int (nI tr), .int (nI co), .long ma, .long mc, .int mt, .int (nI b)]))] := hD
  refine lv_aload_n hx hb dX8_refer_44 rfl (lv_at hl 0 rfl) ?_
  refine va_get (D := (dC, dI)) (ci := 7) (v := .int 1) (C := RX8) (T := TX8) (N := 31) hx hb hts hiX8 hown hK hP 0 rfl rfl 0 (by decide) (hts (.fieldLink RX8 48 "RefineRegionsModel" "thrown" "I") (by decide +kernel)) (fun _ h9 => h9) rfl dX8_refer_45 ?_
  refine lv_if_le (tgt := 53) hx hb dX8_refer_48 (by decide) (fun c9 => absurd c9 (by decide)) (fun _ => ?_)
  refine lv_iconst (v := 0) hx hb dX8_refer_51 (by decide) ?_
  have hP9 := hP
  have hD9 := hD
  exact W.zret (v := 0) hx hb hr (by decide +kernel) (fun t ht hW => ⟨⟨0, (), rfl, rfl, by rw [ht]; exact hP9, va_K.moved hW.alike hK, hD9⟩, hS.F ht⟩) hS.2.2 dX8_refer_52

set_option maxHeartbeats 4000000 in
set_option maxRecDepth 100000 in
/-- refer, refused 2 -/
theorem c_X8_refer_no2 (l : Launch) (dC : Nat → ClassId) (dI : Nat → Nat → Nat) (cI cZ cJ : ClassId) (m0 : Nat) (m1 : Nat) (m2 : Nat) (m3 : Nat) (m4 : Nat) (m5 : Nat) (m6 : Nat) (th : Int32) (tp : Int32) (ty : Int32) (sf : Int32) (rdg : Int32) (dx : Int32) (dy : Int32) (p0 : Int32) (q0 : Int32) (p1 : Int32) (q1 : Int32) (kp : Int32) (w : Nat) (h : Nat) (rwd : Nat) (rht : Nat) (k : Nat) (sk : Nat) (tr : Nat) (co : Nat) (b : Nat) (ma : Int64) (mc : Int64) (mt : Int32) (x : Int32) (y : Int32) (bb : Bool) (hxy : sp_ho (nI rwd) (nI rht) x y = 0) (sz : Nat) : Met l yX8_refer wsX8_refer ({ frames := 0, cells := 0, slots := 0, locals := 0 }) (hw_Pre (dC, dI) vwCl (ty3 cI cZ cJ) [(m0, .inr (7, [.int th, .ref m1, .int (nI w), .int (nI h), .int tp, .int ty, .ref m2, .ref m3, .int sf, .int rdg, .int 1, .int (nI rwd), .int (nI rht), .ref m4, .int dx, .int dy, .int p0, .int q0, .int p1, .int q1, .int kp, .ref m5, .ref m6, .int (nI k), .int (nI sk), .int (nI tr), .int (nI co), .long ma, .long mc, .int mt, .int (nI b)]))] sz [.ref m0, .int x, .int y, .int (sp_z bb)]) (va_Qi (fun (r : Int32) (_ : Unit) => r = 0) (hw_at (dC, dI) vwCl (ty3 cI cZ cJ) (fun _ : Unit => [(m0, .inr (7, [.int 2, .ref m1, .int (nI w), .int (nI h), .int tp, .int ty, .ref m2, .ref m3, .int sf, .int rdg, .int 1, .int (nI rwd), .int (nI rht), .ref m4, .int dx, .int dy, .int p0, .int q0, .int p1, .int q1, .int kp, .ref m5, .ref m6, .int (nI k), .int (nI sk), .int (nI tr), .int (nI co), .long ma, .long mc, .int mt, .int (nI b)]))]) (va_A [(m0, .inr (7, [.int th, .ref m1, .int (nI w), .int (nI h), .int tp, .int ty, .ref m2, .ref m3, .int sf, .int rdg, .int 1, .int (nI rwd), .int (nI rht), .ref m4, .int dx, .int dy, .int p0, .int q0, .int p1, .int q1, .int kp, .ref m5, .ref m6, .int (nI k), .int (nI sk), .int (nI tr), .int (nI co), .long ma, .long mc, .int mt, .int (nI b)]))] sz)) (va_A [(m0, .inr (7, [.int th, .ref m1, .int (nI w), .int (nI h), .int tp, .int ty, .ref m2, .ref m3, .int sf, .int rdg, .int 1, .int (nI rwd), .int (nI rht), .ref m4, .int dx, .int dy, .int p0, .int q0, .int p1, .int q1, .int kp, .ref m5, .ref m6, .int (nI k), .int (nI sk), .int (nI tr), .int (nI co), .long ma, .long mc, .int mt, .int (nI b)]))] sz)) 0 0 (va_A [(m0, .inr (7, [.int th, .ref m1, .int (nI w), .int (nI h), .int tp, .int ty, .ref m2, .ref m3, .int sf, .int rdg, .int 1, .int (nI rwd), .int (nI rht), .ref m4, .int dx, .int dy, .int p0, .int q0, .int p1, .int q1, .int kp, .ref m5, .ref m6, .int (nI k), .int (nI sk), .int (nI tr), .int (nI co), .long ma, .long mc, .int mt, .int (nI b)]))] sz) := by
  refine Met.ofW (cc := cX8_refer) (maxL := 5) (ret := (some .boolean)) (by decide) rfl ?_
  intro pg ev s m args below meth cd s₁ B hml hv
  obtain ⟨rfl, hsz, hP, hK, hN, hZ, hD0⟩ := hv
  have hx := B.exec
  have hb := B.bytes
  have hr := B.returns
  have hts := atoms_spec (ws := wsX8_refer) B.pre
  have hown : s.vm.findClass RX8 = some m.cls := findClass_of_methodNamed B.named
  have hlocks := B.notSynchronized
  subst hsz
  have hD := hD0.self (sz := s.heap.size)
  generalize hAe : va_A [(m0, .inr (7, [.int th, .ref m1, .int (nI w), .int (nI h), .int tp, .int ty, .ref m2, .ref m3, .int sf, .int rdg, .int 1, .int (nI rwd), .int (nI rht), .ref m4, .int dx, .int dy, .int p0, .int q0, .int p1, .int q1, .int kp, .ref m5, .ref m6, .int (nI k), .int (nI sk), .int (nI tr), .int (nI co), .long ma, .long mc, .int mt, .int (nI b)]))] s.heap.size = A at hD hZ ⊢
  have hA : ∀ q : Nat, s.heap.size ≤ q → A q := fun q h => by rw [← hAe]; exact Or.inr h
  have hS : va_S A s.heap s.heap [] := va_S.rf
  have hk : hw_K (dC, dI) vwCl (ty3 cI cZ cJ) A s := ⟨hK, hN, hZ⟩
  have hiX8 : ∀ w ∈ u_ws RX8 TX8 31, w ∈ wsX8_refer := by decide +kernel
  have hl := lv_entry ([.ref m0, .int x, .int y, .int (sp_z bb)]) (n := 5) (Nat.le_of_ble_eq_true rfl)
  rw [lg_entry_eq]
  generalize (lg_sl ([.ref m0, .int x, .int y, .int (sp_z bb)]) ++ List.replicate (5 - (lg_sl ([.ref m0, .int x, .int y, .int (sp_z bb)])).length) Slot.unset).toArray = ls at hl ⊢
  have hl : lv_has ls 5 [(0, .ref m0), (1, .int x), (2, .int y), (3, .int (sp_z bb))] := hl
  refine lv_aload_n hx hb dX8_refer_0 rfl (lv_at hl 0 rfl) ?_
  refine lv_aload_n hx hb dX8_refer_1 rfl (lv_at hl 0 rfl) ?_
  refine va_get (D := (dC, dI)) (ci := 7) (v := .int 1) (C := RX8) (T := TX8) (N := 31) hx hb hts hiX8 hown hK hP 0 rfl rfl 10 (by decide) (hts (.fieldLink RX8 65 "RefineRegionsModel" "hasReference" "Z") (by decide +kernel)) (fun _ h9 => h9) rfl dX8_refer_2 ?_
  refine lv_if_ne (tgt := 12) hx hb dX8_refer_5 (by decide) (fun _ => ?_) (fun c9 => absurd c9 (by decide))
  refine lv_iload_n hx hb dX8_refer_12 rfl (lv_at hl 1 rfl) ?_
  refine lv_if_lt (tgt := 36) hx hb dX8_refer_13 (by decide) (fun c_13 => ?_) (fun c_13 => ?_)
  · refine lv_iconst (v := 2) hx hb dX8_refer_36 (by decide) ?_
    refine lv_goto (tgt := 41) hx hb dX8_refer_37 (by decide) ?_
    refine va_put (D := (dC, dI)) (ci := 7) (v := .int 2) (ty := .int) (C := RX8) (T := TX8) (N := 31) hx hb hts hiX8 tyX8 tyX8_ok nmX8 hown hK hP hD hS 0 rfl rfl 0 (by decide) (hts (.fieldLink RX8 48 "RefineRegionsModel" "thrown" "I") (by decide +kernel)) (fun _ h9 => h9) rfl (by decide +kernel) rfl rfl (Nat.le_of_ble_eq_true rfl) dX8_refer_41 (fun H locs hP hD hS => ?_)
    have hP : va_P (dC, dI) vwCl [(m0, .inr (7, [.int 2, .ref m1, .int (nI w), .int (nI h), .int tp, .int ty, .ref m2, .ref m3, .int sf, .int rdg, .int 1, .int (nI rwd), .int (nI rht), .ref m4, .int dx, .int dy, .int p0, .int q0, .int p1, .int q1, .int kp, .ref m5, .ref m6, .int (nI k), .int (nI sk), .int (nI tr), .int (nI co), .long ma, .long mc, .int mt, .int (nI b)]))] H := hP
    have hD : va_D A [(m0, .inr (7, [.int 2, .ref m1, .int (nI w), .int (nI h), .int tp, .int ty, .ref m2, .ref m3, .int sf, .int rdg, .int 1, .int (nI rwd), .int (nI rht), .ref m4, .int dx, .int dy, .int p0, .int q0, .int p1, .int q1, .int kp, .ref m5, .ref m6, .int (nI k), .int (nI sk), .int (nI tr), .int (nI co), .long ma, .long mc, .int mt, .int (nI b)]))] := hD
    refine lv_aload_n hx hb dX8_refer_44 rfl (lv_at hl 0 rfl) ?_
    refine va_get (D := (dC, dI)) (ci := 7) (v := .int 2) (C := RX8) (T := TX8) (N := 31) hx hb hts hiX8 hown hK hP 0 rfl rfl 0 (by decide) (hts (.fieldLink RX8 48 "RefineRegionsModel" "thrown" "I") (by decide +kernel)) (fun _ h9 => h9) rfl dX8_refer_45 ?_
    refine lv_if_le (tgt := 53) hx hb dX8_refer_48 (by decide) (fun c9 => absurd c9 (by decide)) (fun _ => ?_)
    refine lv_iconst (v := 0) hx hb dX8_refer_51 (by decide) ?_
    have hP9 := hP
    have hD9 := hD
    exact W.zret (v := 0) hx hb hr (by decide +kernel) (fun t ht hW => ⟨⟨0, (), rfl, rfl, by rw [ht]; exact hP9, va_K.moved hW.alike hK, hD9⟩, hS.F ht⟩) hS.2.2 dX8_refer_52
  · refine lv_iload_n hx hb dX8_refer_16 rfl (lv_at hl 2 rfl) ?_
    refine lv_if_lt (tgt := 36) hx hb dX8_refer_17 (by decide) (fun c_17 => ?_) (fun c_17 => ?_)
    · refine lv_iconst (v := 2) hx hb dX8_refer_36 (by decide) ?_
      refine lv_goto (tgt := 41) hx hb dX8_refer_37 (by decide) ?_
      refine va_put (D := (dC, dI)) (ci := 7) (v := .int 2) (ty := .int) (C := RX8) (T := TX8) (N := 31) hx hb hts hiX8 tyX8 tyX8_ok nmX8 hown hK hP hD hS 0 rfl rfl 0 (by decide) (hts (.fieldLink RX8 48 "RefineRegionsModel" "thrown" "I") (by decide +kernel)) (fun _ h9 => h9) rfl (by decide +kernel) rfl rfl (Nat.le_of_ble_eq_true rfl) dX8_refer_41 (fun H locs hP hD hS => ?_)
      have hP : va_P (dC, dI) vwCl [(m0, .inr (7, [.int 2, .ref m1, .int (nI w), .int (nI h), .int tp, .int ty, .ref m2, .ref m3, .int sf, .int rdg, .int 1, .int (nI rwd), .int (nI rht), .ref m4, .int dx, .int dy, .int p0, .int q0, .int p1, .int q1, .int kp, .ref m5, .ref m6, .int (nI k), .int (nI sk), .int (nI tr), .int (nI co), .long ma, .long mc, .int mt, .int (nI b)]))] H := hP
      have hD : va_D A [(m0, .inr (7, [.int 2, .ref m1, .int (nI w), .int (nI h), .int tp, .int ty, .ref m2, .ref m3, .int sf, .int rdg, .int 1, .int (nI rwd), .int (nI rht), .ref m4, .int dx, .int dy, .int p0, .int q0, .int p1, .int q1, .int kp, .ref m5, .ref m6, .int (nI k), .int (nI sk), .int (nI tr), .int (nI co), .long ma, .long mc, .int mt, .int (nI b)]))] := hD
      refine lv_aload_n hx hb dX8_refer_44 rfl (lv_at hl 0 rfl) ?_
      refine va_get (D := (dC, dI)) (ci := 7) (v := .int 2) (C := RX8) (T := TX8) (N := 31) hx hb hts hiX8 hown hK hP 0 rfl rfl 0 (by decide) (hts (.fieldLink RX8 48 "RefineRegionsModel" "thrown" "I") (by decide +kernel)) (fun _ h9 => h9) rfl dX8_refer_45 ?_
      refine lv_if_le (tgt := 53) hx hb dX8_refer_48 (by decide) (fun c9 => absurd c9 (by decide)) (fun _ => ?_)
      refine lv_iconst (v := 0) hx hb dX8_refer_51 (by decide) ?_
      have hP9 := hP
      have hD9 := hD
      exact W.zret (v := 0) hx hb hr (by decide +kernel) (fun t ht hW => ⟨⟨0, (), rfl, rfl, by rw [ht]; exact hP9, va_K.moved hW.alike hK, hD9⟩, hS.F ht⟩) hS.2.2 dX8_refer_52
    · refine lv_iload_n hx hb dX8_refer_20 rfl (lv_at hl 1 rfl) ?_
      refine lv_aload_n hx hb dX8_refer_21 rfl (lv_at hl 0 rfl) ?_
      refine va_get (D := (dC, dI)) (ci := 7) (v := .int (nI rwd)) (C := RX8) (T := TX8) (N := 31) hx hb hts hiX8 hown hK hP 0 rfl rfl 11 (by decide) (hts (.fieldLink RX8 68 "RefineRegionsModel" "wide" "I") (by decide +kernel)) (fun _ h9 => h9) rfl dX8_refer_22 ?_
      refine lv_icmp_ge (tgt := 36) hx hb dX8_refer_25 (by decide) (fun c_25 => ?_) (fun c_25 => ?_)
      · refine lv_iconst (v := 2) hx hb dX8_refer_36 (by decide) ?_
        refine lv_goto (tgt := 41) hx hb dX8_refer_37 (by decide) ?_
        refine va_put (D := (dC, dI)) (ci := 7) (v := .int 2) (ty := .int) (C := RX8) (T := TX8) (N := 31) hx hb hts hiX8 tyX8 tyX8_ok nmX8 hown hK hP hD hS 0 rfl rfl 0 (by decide) (hts (.fieldLink RX8 48 "RefineRegionsModel" "thrown" "I") (by decide +kernel)) (fun _ h9 => h9) rfl (by decide +kernel) rfl rfl (Nat.le_of_ble_eq_true rfl) dX8_refer_41 (fun H locs hP hD hS => ?_)
        have hP : va_P (dC, dI) vwCl [(m0, .inr (7, [.int 2, .ref m1, .int (nI w), .int (nI h), .int tp, .int ty, .ref m2, .ref m3, .int sf, .int rdg, .int 1, .int (nI rwd), .int (nI rht), .ref m4, .int dx, .int dy, .int p0, .int q0, .int p1, .int q1, .int kp, .ref m5, .ref m6, .int (nI k), .int (nI sk), .int (nI tr), .int (nI co), .long ma, .long mc, .int mt, .int (nI b)]))] H := hP
        have hD : va_D A [(m0, .inr (7, [.int 2, .ref m1, .int (nI w), .int (nI h), .int tp, .int ty, .ref m2, .ref m3, .int sf, .int rdg, .int 1, .int (nI rwd), .int (nI rht), .ref m4, .int dx, .int dy, .int p0, .int q0, .int p1, .int q1, .int kp, .ref m5, .ref m6, .int (nI k), .int (nI sk), .int (nI tr), .int (nI co), .long ma, .long mc, .int mt, .int (nI b)]))] := hD
        refine lv_aload_n hx hb dX8_refer_44 rfl (lv_at hl 0 rfl) ?_
        refine va_get (D := (dC, dI)) (ci := 7) (v := .int 2) (C := RX8) (T := TX8) (N := 31) hx hb hts hiX8 hown hK hP 0 rfl rfl 0 (by decide) (hts (.fieldLink RX8 48 "RefineRegionsModel" "thrown" "I") (by decide +kernel)) (fun _ h9 => h9) rfl dX8_refer_45 ?_
        refine lv_if_le (tgt := 53) hx hb dX8_refer_48 (by decide) (fun c9 => absurd c9 (by decide)) (fun _ => ?_)
        refine lv_iconst (v := 0) hx hb dX8_refer_51 (by decide) ?_
        have hP9 := hP
        have hD9 := hD
        exact W.zret (v := 0) hx hb hr (by decide +kernel) (fun t ht hW => ⟨⟨0, (), rfl, rfl, by rw [ht]; exact hP9, va_K.moved hW.alike hK, hD9⟩, hS.F ht⟩) hS.2.2 dX8_refer_52
      · refine lv_iload_n hx hb dX8_refer_28 rfl (lv_at hl 2 rfl) ?_
        refine lv_aload_n hx hb dX8_refer_29 rfl (lv_at hl 0 rfl) ?_
        refine va_get (D := (dC, dI)) (ci := 7) (v := .int (nI rht)) (C := RX8) (T := TX8) (N := 31) hx hb hts hiX8 hown hK hP 0 rfl rfl 12 (by decide) (hts (.fieldLink RX8 71 "RefineRegionsModel" "high" "I") (by decide +kernel)) (fun _ h9 => h9) rfl dX8_refer_30 ?_
        refine lv_icmp_lt (tgt := 40) hx hb dX8_refer_33 (by decide) (fun c_33 => absurd c_33 (fun h9 => sp_ho_f hxy c_13 c_25 c_17 (Int32.not_le.mpr h9))) (fun c_33 => ?_)
        refine lv_iconst (v := 2) hx hb dX8_refer_36 (by decide) ?_
        refine lv_goto (tgt := 41) hx hb dX8_refer_37 (by decide) ?_
        refine va_put (D := (dC, dI)) (ci := 7) (v := .int 2) (ty := .int) (C := RX8) (T := TX8) (N := 31) hx hb hts hiX8 tyX8 tyX8_ok nmX8 hown hK hP hD hS 0 rfl rfl 0 (by decide) (hts (.fieldLink RX8 48 "RefineRegionsModel" "thrown" "I") (by decide +kernel)) (fun _ h9 => h9) rfl (by decide +kernel) rfl rfl (Nat.le_of_ble_eq_true rfl) dX8_refer_41 (fun H locs hP hD hS => ?_)
        have hP : va_P (dC, dI) vwCl [(m0, .inr (7, [.int 2, .ref m1, .int (nI w), .int (nI h), .int tp, .int ty, .ref m2, .ref m3, .int sf, .int rdg, .int 1, .int (nI rwd), .int (nI rht), .ref m4, .int dx, .int dy, .int p0, .int q0, .int p1, .int q1, .int kp, .ref m5, .ref m6, .int (nI k), .int (nI sk), .int (nI tr), .int (nI co), .long ma, .long mc, .int mt, .int (nI b)]))] H := hP
        have hD : va_D A [(m0, .inr (7, [.int 2, .ref m1, .int (nI w), .int (nI h), .int tp, .int ty, .ref m2, .ref m3, .int sf, .int rdg, .int 1, .int (nI rwd), .int (nI rht), .ref m4, .int dx, .int dy, .int p0, .int q0, .int p1, .int q1, .int kp, .ref m5, .ref m6, .int (nI k), .int (nI sk), .int (nI tr), .int (nI co), .long ma, .long mc, .int mt, .int (nI b)]))] := hD
        refine lv_aload_n hx hb dX8_refer_44 rfl (lv_at hl 0 rfl) ?_
        refine va_get (D := (dC, dI)) (ci := 7) (v := .int 2) (C := RX8) (T := TX8) (N := 31) hx hb hts hiX8 hown hK hP 0 rfl rfl 0 (by decide) (hts (.fieldLink RX8 48 "RefineRegionsModel" "thrown" "I") (by decide +kernel)) (fun _ h9 => h9) rfl dX8_refer_45 ?_
        refine lv_if_le (tgt := 53) hx hb dX8_refer_48 (by decide) (fun c9 => absurd c9 (by decide)) (fun _ => ?_)
        refine lv_iconst (v := 0) hx hb dX8_refer_51 (by decide) ?_
        have hP9 := hP
        have hD9 := hD
        exact W.zret (v := 0) hx hb hr (by decide +kernel) (fun t ht hW => ⟨⟨0, (), rfl, rfl, by rw [ht]; exact hP9, va_K.moved hW.alike hK, hD9⟩, hS.F ht⟩) hS.2.2 dX8_refer_52

set_option maxHeartbeats 4000000 in
set_option maxRecDepth 100000 in
/-- offset, where it is allowed -/
theorem c_X8_offset (l : Launch) (dC : Nat → ClassId) (dI : Nat → Nat → Nat) (cI cZ cJ : ClassId) (m0 : Nat) (m1 : Nat) (m2 : Nat) (m3 : Nat) (m4 : Nat) (m5 : Nat) (m6 : Nat) (th : Int32) (tp : Int32) (ty : Int32) (sf : Int32) (rdg : Int32) (dx : Int32) (dy : Int32) (p0 : Int32) (q0 : Int32) (p1 : Int32) (q1 : Int32) (kp : Int32) (w : Nat) (h : Nat) (rwd : Nat) (rht : Nat) (k : Nat) (sk : Nat) (tr : Nat) (co : Nat) (b : Nat) (ma : Int64) (mc : Int64) (mt : Int32) (x : Int32) (y : Int32) (hx1 : sp_iw x (-20) 20 = 1) (hy1 : sp_iw y (-20) 20 = 1) (sz : Nat) : Met l yX8_offset wsX8_offset ({ frames := 0, cells := 0, slots := 0, locals := 0 }) (hw_Pre (dC, dI) vwCl (ty3 cI cZ cJ) [(m0, .inr (7, [.int th, .ref m1, .int (nI w), .int (nI h), .int tp, .int ty, .ref m2, .ref m3, .int sf, .int rdg, .int 1, .int (nI rwd), .int (nI rht), .ref m4, .int dx, .int dy, .int p0, .int q0, .int p1, .int q1, .int kp, .ref m5, .ref m6, .int (nI k), .int (nI sk), .int (nI tr), .int (nI co), .long ma, .long mc, .int mt, .int (nI b)]))] sz [.ref m0, .int x, .int y]) (va_Qv (fun _ : Unit => True) (hw_at (dC, dI) vwCl (ty3 cI cZ cJ) (fun _ : Unit => [(m0, .inr (7, [.int 0, .ref m1, .int (nI w), .int (nI h), .int tp, .int ty, .ref m2, .ref m3, .int sf, .int rdg, .int 1, .int (nI rwd), .int (nI rht), .ref m4, .int x, .int y, .int p0, .int q0, .int p1, .int q1, .int kp, .ref m5, .ref m6, .int (nI k), .int (nI sk), .int (nI tr), .int (nI co), .long ma, .long mc, .int mt, .int (nI b)]))]) (va_A [(m0, .inr (7, [.int th, .ref m1, .int (nI w), .int (nI h), .int tp, .int ty, .ref m2, .ref m3, .int sf, .int rdg, .int 1, .int (nI rwd), .int (nI rht), .ref m4, .int dx, .int dy, .int p0, .int q0, .int p1, .int q1, .int kp, .ref m5, .ref m6, .int (nI k), .int (nI sk), .int (nI tr), .int (nI co), .long ma, .long mc, .int mt, .int (nI b)]))] sz)) (va_A [(m0, .inr (7, [.int th, .ref m1, .int (nI w), .int (nI h), .int tp, .int ty, .ref m2, .ref m3, .int sf, .int rdg, .int 1, .int (nI rwd), .int (nI rht), .ref m4, .int dx, .int dy, .int p0, .int q0, .int p1, .int q1, .int kp, .ref m5, .ref m6, .int (nI k), .int (nI sk), .int (nI tr), .int (nI co), .long ma, .long mc, .int mt, .int (nI b)]))] sz)) 0 0 (va_A [(m0, .inr (7, [.int th, .ref m1, .int (nI w), .int (nI h), .int tp, .int ty, .ref m2, .ref m3, .int sf, .int rdg, .int 1, .int (nI rwd), .int (nI rht), .ref m4, .int dx, .int dy, .int p0, .int q0, .int p1, .int q1, .int kp, .ref m5, .ref m6, .int (nI k), .int (nI sk), .int (nI tr), .int (nI co), .long ma, .long mc, .int mt, .int (nI b)]))] sz) := by
  refine Met.ofW (cc := cX8_offset) (maxL := 3) (ret := none) (by decide) rfl ?_
  intro pg ev s m args below meth cd s₁ B hml hv
  obtain ⟨rfl, hsz, hP, hK, hN, hZ, hD0⟩ := hv
  have hx := B.exec
  have hb := B.bytes
  have hr := B.returns
  have hts := atoms_spec (ws := wsX8_offset) B.pre
  have hown : s.vm.findClass RX8 = some m.cls := findClass_of_methodNamed B.named
  have hlocks := B.notSynchronized
  subst hsz
  have hD := hD0.self (sz := s.heap.size)
  generalize hAe : va_A [(m0, .inr (7, [.int th, .ref m1, .int (nI w), .int (nI h), .int tp, .int ty, .ref m2, .ref m3, .int sf, .int rdg, .int 1, .int (nI rwd), .int (nI rht), .ref m4, .int dx, .int dy, .int p0, .int q0, .int p1, .int q1, .int kp, .ref m5, .ref m6, .int (nI k), .int (nI sk), .int (nI tr), .int (nI co), .long ma, .long mc, .int mt, .int (nI b)]))] s.heap.size = A at hD hZ ⊢
  have hA : ∀ q : Nat, s.heap.size ≤ q → A q := fun q h => by rw [← hAe]; exact Or.inr h
  have hS : va_S A s.heap s.heap [] := va_S.rf
  have hk : hw_K (dC, dI) vwCl (ty3 cI cZ cJ) A s := ⟨hK, hN, hZ⟩
  have hiX8 : ∀ w ∈ u_ws RX8 TX8 31, w ∈ wsX8_offset := by decide +kernel
  have hl := lv_entry ([.ref m0, .int x, .int y]) (n := 3) (Nat.le_of_ble_eq_true rfl)
  rw [lg_entry_eq]
  generalize (lg_sl ([.ref m0, .int x, .int y]) ++ List.replicate (3 - (lg_sl ([.ref m0, .int x, .int y])).length) Slot.unset).toArray = ls at hl ⊢
  have hl : lv_has ls 3 [(0, .ref m0), (1, .int x), (2, .int y)] := hl
  refine lv_aload_n hx hb dX8_offset_0 rfl (lv_at hl 0 rfl) ?_
  refine lv_aload_n hx hb dX8_offset_1 rfl (lv_at hl 0 rfl) ?_
  refine va_get (D := (dC, dI)) (ci := 7) (v := .int 1) (C := RX8) (T := TX8) (N := 31) hx hb hts hiX8 hown hK hP 0 rfl rfl 10 (by decide) (hts (.fieldLink RX8 65 "RefineRegionsModel" "hasReference" "Z") (by decide +kernel)) (fun _ h9 => h9) rfl dX8_offset_2 ?_
  refine lv_if_ne (tgt := 12) hx hb dX8_offset_5 (by decide) (fun _ => ?_) (fun c9 => absurd c9 (by decide))
  refine lv_iload_n hx hb dX8_offset_12 rfl (lv_at hl 1 rfl) ?_
  refine lv_bipush (v := (-20)) hx hb dX8_offset_13 (by decide) ?_
  refine lv_icmp_lt (tgt := 36) hx hb dX8_offset_15 (by decide) (fun c_15 => absurd c_15 (sp_iw_lo hx1)) (fun c_15 => ?_)
  refine lv_iload_n hx hb dX8_offset_18 rfl (lv_at hl 1 rfl) ?_
  refine lv_bipush (v := 20) hx hb dX8_offset_19 (by decide) ?_
  refine lv_icmp_gt (tgt := 36) hx hb dX8_offset_21 (by decide) (fun c_21 => absurd c_21 (sp_iw_hi hx1)) (fun c_21 => ?_)
  refine lv_iload_n hx hb dX8_offset_24 rfl (lv_at hl 2 rfl) ?_
  refine lv_bipush (v := (-20)) hx hb dX8_offset_25 (by decide) ?_
  refine lv_icmp_lt (tgt := 36) hx hb dX8_offset_27 (by decide) (fun c_27 => absurd c_27 (sp_iw_lo hy1)) (fun c_27 => ?_)
  refine lv_iload_n hx hb dX8_offset_30 rfl (lv_at hl 2 rfl) ?_
  refine lv_bipush (v := 20) hx hb dX8_offset_31 (by decide) ?_
  refine lv_icmp_le (tgt := 40) hx hb dX8_offset_33 (by decide) (fun c_33 => ?_) (fun c_33 => absurd (Int32.not_lt.mp (sp_iw_hi hy1)) c_33)
  refine lv_iconst (v := 0) hx hb dX8_offset_40 (by decide) ?_
  refine va_put (D := (dC, dI)) (ci := 7) (v := .int 0) (ty := .int) (C := RX8) (T := TX8) (N := 31) hx hb hts hiX8 tyX8 tyX8_ok nmX8 hown hK hP hD hS 0 rfl rfl 0 (by decide) (hts (.fieldLink RX8 48 "RefineRegionsModel" "thrown" "I") (by decide +kernel)) (fun _ h9 => h9) rfl (by decide +kernel) rfl rfl (Nat.le_of_ble_eq_true rfl) dX8_offset_41 (fun H locs hP hD hS => ?_)
  have hP : va_P (dC, dI) vwCl [(m0, .inr (7, [.int 0, .ref m1, .int (nI w), .int (nI h), .int tp, .int ty, .ref m2, .ref m3, .int sf, .int rdg, .int 1, .int (nI rwd), .int (nI rht), .ref m4, .int dx, .int dy, .int p0, .int q0, .int p1, .int q1, .int kp, .ref m5, .ref m6, .int (nI k), .int (nI sk), .int (nI tr), .int (nI co), .long ma, .long mc, .int mt, .int (nI b)]))] H := hP
  have hD : va_D A [(m0, .inr (7, [.int 0, .ref m1, .int (nI w), .int (nI h), .int tp, .int ty, .ref m2, .ref m3, .int sf, .int rdg, .int 1, .int (nI rwd), .int (nI rht), .ref m4, .int dx, .int dy, .int p0, .int q0, .int p1, .int q1, .int kp, .ref m5, .ref m6, .int (nI k), .int (nI sk), .int (nI tr), .int (nI co), .long ma, .long mc, .int mt, .int (nI b)]))] := hD
  refine lv_aload_n hx hb dX8_offset_44 rfl (lv_at hl 0 rfl) ?_
  refine va_get (D := (dC, dI)) (ci := 7) (v := .int 0) (C := RX8) (T := TX8) (N := 31) hx hb hts hiX8 hown hK hP 0 rfl rfl 0 (by decide) (hts (.fieldLink RX8 48 "RefineRegionsModel" "thrown" "I") (by decide +kernel)) (fun _ h9 => h9) rfl dX8_offset_45 ?_
  refine lv_if_ne (tgt := 61) hx hb dX8_offset_48 (by decide) (fun c9 => absurd c9 (by decide)) (fun _ => ?_)
  refine lv_aload_n hx hb dX8_offset_51 rfl (lv_at hl 0 rfl) ?_
  refine lv_iload_n hx hb dX8_offset_52 rfl (lv_at hl 1 rfl) ?_
  refine va_put (D := (dC, dI)) (ci := 7) (v := .int x) (ty := .int) (C := RX8) (T := TX8) (N := 31) hx hb hts hiX8 tyX8 tyX8_ok nmX8 hown hK hP hD hS 0 rfl rfl 14 (by decide) (hts (.fieldLink RX8 74 "RefineRegionsModel" "dx" "I") (by decide +kernel)) (fun _ h9 => h9) rfl (by decide +kernel) rfl rfl (Nat.le_of_ble_eq_true rfl) dX8_offset_53 (fun H locs hP hD hS => ?_)
  have hP : va_P (dC, dI) vwCl [(m0, .inr (7, [.int 0, .ref m1, .int (nI w), .int (nI h), .int tp, .int ty, .ref m2, .ref m3, .int sf, .int rdg, .int 1, .int (nI rwd), .int (nI rht), .ref m4, .int x, .int dy, .int p0, .int q0, .int p1, .int q1, .int kp, .ref m5, .ref m6, .int (nI k), .int (nI sk), .int (nI tr), .int (nI co), .long ma, .long mc, .int mt, .int (nI b)]))] H := hP
  have hD : va_D A [(m0, .inr (7, [.int 0, .ref m1, .int (nI w), .int (nI h), .int tp, .int ty, .ref m2, .ref m3, .int sf, .int rdg, .int 1, .int (nI rwd), .int (nI rht), .ref m4, .int x, .int dy, .int p0, .int q0, .int p1, .int q1, .int kp, .ref m5, .ref m6, .int (nI k), .int (nI sk), .int (nI tr), .int (nI co), .long ma, .long mc, .int mt, .int (nI b)]))] := hD
  refine lv_aload_n hx hb dX8_offset_56 rfl (lv_at hl 0 rfl) ?_
  refine lv_iload_n hx hb dX8_offset_57 rfl (lv_at hl 2 rfl) ?_
  refine va_put (D := (dC, dI)) (ci := 7) (v := .int y) (ty := .int) (C := RX8) (T := TX8) (N := 31) hx hb hts hiX8 tyX8 tyX8_ok nmX8 hown hK hP hD hS 0 rfl rfl 15 (by decide) (hts (.fieldLink RX8 77 "RefineRegionsModel" "dy" "I") (by decide +kernel)) (fun _ h9 => h9) rfl (by decide +kernel) rfl rfl (Nat.le_of_ble_eq_true rfl) dX8_offset_58 (fun H locs hP hD hS => ?_)
  have hP : va_P (dC, dI) vwCl [(m0, .inr (7, [.int 0, .ref m1, .int (nI w), .int (nI h), .int tp, .int ty, .ref m2, .ref m3, .int sf, .int rdg, .int 1, .int (nI rwd), .int (nI rht), .ref m4, .int x, .int y, .int p0, .int q0, .int p1, .int q1, .int kp, .ref m5, .ref m6, .int (nI k), .int (nI sk), .int (nI tr), .int (nI co), .long ma, .long mc, .int mt, .int (nI b)]))] H := hP
  have hD : va_D A [(m0, .inr (7, [.int 0, .ref m1, .int (nI w), .int (nI h), .int tp, .int ty, .ref m2, .ref m3, .int sf, .int rdg, .int 1, .int (nI rwd), .int (nI rht), .ref m4, .int x, .int y, .int p0, .int q0, .int p1, .int q1, .int kp, .ref m5, .ref m6, .int (nI k), .int (nI sk), .int (nI tr), .int (nI co), .long ma, .long mc, .int mt, .int (nI b)]))] := hD
  have hP9 := hP
  have hD9 := hD
  exact W.vret hx hb hr (fun t ht hW => ⟨⟨(), rfl, trivial, by rw [ht]; exact hP9, va_K.moved hW.alike hK, hD9⟩, hS.F ht⟩) hS.2.2 dX8_offset_61

set_option maxHeartbeats 4000000 in
set_option maxRecDepth 100000 in
/-- offset, refused 1 -/
theorem c_X8_offset_no1 (l : Launch) (dC : Nat → ClassId) (dI : Nat → Nat → Nat) (cI cZ cJ : ClassId) (m0 : Nat) (m1 : Nat) (m2 : Nat) (m3 : Nat) (m4 : Nat) (m5 : Nat) (m6 : Nat) (th : Int32) (tp : Int32) (ty : Int32) (sf : Int32) (rdg : Int32) (dx : Int32) (dy : Int32) (p0 : Int32) (q0 : Int32) (p1 : Int32) (q1 : Int32) (kp : Int32) (w : Nat) (h : Nat) (rwd : Nat) (rht : Nat) (k : Nat) (sk : Nat) (tr : Nat) (co : Nat) (b : Nat) (ma : Int64) (mc : Int64) (mt : Int32) (x : Int32) (y : Int32) (sz : Nat) : Met l yX8_offset wsX8_offset ({ frames := 0, cells := 0, slots := 0, locals := 0 }) (hw_Pre (dC, dI) vwCl (ty3 cI cZ cJ) [(m0, .inr (7, [.int th, .ref m1, .int (nI w), .int (nI h), .int tp, .int ty, .ref m2, .ref m3, .int sf, .int rdg, .int 0, .int (nI rwd), .int (nI rht), .ref m4, .int dx, .int dy, .int p0, .int q0, .int p1, .int q1, .int kp, .ref m5, .ref m6, .int (nI k), .int (nI sk), .int (nI tr), .int (nI co), .long ma, .long mc, .int mt, .int (nI b)]))] sz [.ref m0, .int x, .int y]) (va_Qv (fun _ : Unit => True) (hw_at (dC, dI) vwCl (ty3 cI cZ cJ) (fun _ : Unit => [(m0, .inr (7, [.int 1, .ref m1, .int (nI w), .int (nI h), .int tp, .int ty, .ref m2, .ref m3, .int sf, .int rdg, .int 0, .int (nI rwd), .int (nI rht), .ref m4, .int dx, .int dy, .int p0, .int q0, .int p1, .int q1, .int kp, .ref m5, .ref m6, .int (nI k), .int (nI sk), .int (nI tr), .int (nI co), .long ma, .long mc, .int mt, .int (nI b)]))]) (va_A [(m0, .inr (7, [.int th, .ref m1, .int (nI w), .int (nI h), .int tp, .int ty, .ref m2, .ref m3, .int sf, .int rdg, .int 0, .int (nI rwd), .int (nI rht), .ref m4, .int dx, .int dy, .int p0, .int q0, .int p1, .int q1, .int kp, .ref m5, .ref m6, .int (nI k), .int (nI sk), .int (nI tr), .int (nI co), .long ma, .long mc, .int mt, .int (nI b)]))] sz)) (va_A [(m0, .inr (7, [.int th, .ref m1, .int (nI w), .int (nI h), .int tp, .int ty, .ref m2, .ref m3, .int sf, .int rdg, .int 0, .int (nI rwd), .int (nI rht), .ref m4, .int dx, .int dy, .int p0, .int q0, .int p1, .int q1, .int kp, .ref m5, .ref m6, .int (nI k), .int (nI sk), .int (nI tr), .int (nI co), .long ma, .long mc, .int mt, .int (nI b)]))] sz)) 0 0 (va_A [(m0, .inr (7, [.int th, .ref m1, .int (nI w), .int (nI h), .int tp, .int ty, .ref m2, .ref m3, .int sf, .int rdg, .int 0, .int (nI rwd), .int (nI rht), .ref m4, .int dx, .int dy, .int p0, .int q0, .int p1, .int q1, .int kp, .ref m5, .ref m6, .int (nI k), .int (nI sk), .int (nI tr), .int (nI co), .long ma, .long mc, .int mt, .int (nI b)]))] sz) := by
  refine Met.ofW (cc := cX8_offset) (maxL := 3) (ret := none) (by decide) rfl ?_
  intro pg ev s m args below meth cd s₁ B hml hv
  obtain ⟨rfl, hsz, hP, hK, hN, hZ, hD0⟩ := hv
  have hx := B.exec
  have hb := B.bytes
  have hr := B.returns
  have hts := atoms_spec (ws := wsX8_offset) B.pre
  have hown : s.vm.findClass RX8 = some m.cls := findClass_of_methodNamed B.named
  have hlocks := B.notSynchronized
  subst hsz
  have hD := hD0.self (sz := s.heap.size)
  generalize hAe : va_A [(m0, .inr (7, [.int th, .ref m1, .int (nI w), .int (nI h), .int tp, .int ty, .ref m2, .ref m3, .int sf, .int rdg, .int 0, .int (nI rwd), .int (nI rht), .ref m4, .int dx, .int dy, .int p0, .int q0, .int p1, .int q1, .int kp, .ref m5, .ref m6, .int (nI k), .int (nI sk), .int (nI tr), .int (nI co), .long ma, .long mc, .int mt, .int (nI b)]))] s.heap.size = A at hD hZ ⊢
  have hA : ∀ q : Nat, s.heap.size ≤ q → A q := fun q h => by rw [← hAe]; exact Or.inr h
  have hS : va_S A s.heap s.heap [] := va_S.rf
  have hk : hw_K (dC, dI) vwCl (ty3 cI cZ cJ) A s := ⟨hK, hN, hZ⟩
  have hiX8 : ∀ w ∈ u_ws RX8 TX8 31, w ∈ wsX8_offset := by decide +kernel
  have hl := lv_entry ([.ref m0, .int x, .int y]) (n := 3) (Nat.le_of_ble_eq_true rfl)
  rw [lg_entry_eq]
  generalize (lg_sl ([.ref m0, .int x, .int y]) ++ List.replicate (3 - (lg_sl ([.ref m0, .int x, .int y])).length) Slot.unset).toArray = ls at hl ⊢
  have hl : lv_has ls 3 [(0, .ref m0), (1, .int x), (2, .int y)] := hl
  refine lv_aload_n hx hb dX8_offset_0 rfl (lv_at hl 0 rfl) ?_
  refine lv_aload_n hx hb dX8_offset_1 rfl (lv_at hl 0 rfl) ?_
  refine va_get (D := (dC, dI)) (ci := 7) (v := .int 0) (C := RX8) (T := TX8) (N := 31) hx hb hts hiX8 hown hK hP 0 rfl rfl 10 (by decide) (hts (.fieldLink RX8 65 "RefineRegionsModel" "hasReference" "Z") (by decide +kernel)) (fun _ h9 => h9) rfl dX8_offset_2 ?_
  refine lv_if_ne (tgt := 12) hx hb dX8_offset_5 (by decide) (fun c9 => absurd c9 (by decide)) (fun _ => ?_)
  refine lv_iconst (v := 1) hx hb dX8_offset_8 (by decide) ?_
  refine lv_goto (tgt := 41) hx hb dX8_offset_9 (by decide) ?_
  refine va_put (D := (dC, dI)) (ci := 7) (v := .int 1) (ty := .int) (C := RX8) (T := TX8) (N := 31) hx hb hts hiX8 tyX8 tyX8_ok nmX8 hown hK hP hD hS 0 rfl rfl 0 (by decide) (hts (.fieldLink RX8 48 "RefineRegionsModel" "thrown" "I") (by decide +kernel)) (fun _ h9 => h9) rfl (by decide +kernel) rfl rfl (Nat.le_of_ble_eq_true rfl) dX8_offset_41 (fun H locs hP hD hS => ?_)
  have hP : va_P (dC, dI) vwCl [(m0, .inr (7, [.int 1, .ref m1, .int (nI w), .int (nI h), .int tp, .int ty, .ref m2, .ref m3, .int sf, .int rdg, .int 0, .int (nI rwd), .int (nI rht), .ref m4, .int dx, .int dy, .int p0, .int q0, .int p1, .int q1, .int kp, .ref m5, .ref m6, .int (nI k), .int (nI sk), .int (nI tr), .int (nI co), .long ma, .long mc, .int mt, .int (nI b)]))] H := hP
  have hD : va_D A [(m0, .inr (7, [.int 1, .ref m1, .int (nI w), .int (nI h), .int tp, .int ty, .ref m2, .ref m3, .int sf, .int rdg, .int 0, .int (nI rwd), .int (nI rht), .ref m4, .int dx, .int dy, .int p0, .int q0, .int p1, .int q1, .int kp, .ref m5, .ref m6, .int (nI k), .int (nI sk), .int (nI tr), .int (nI co), .long ma, .long mc, .int mt, .int (nI b)]))] := hD
  refine lv_aload_n hx hb dX8_offset_44 rfl (lv_at hl 0 rfl) ?_
  refine va_get (D := (dC, dI)) (ci := 7) (v := .int 1) (C := RX8) (T := TX8) (N := 31) hx hb hts hiX8 hown hK hP 0 rfl rfl 0 (by decide) (hts (.fieldLink RX8 48 "RefineRegionsModel" "thrown" "I") (by decide +kernel)) (fun _ h9 => h9) rfl dX8_offset_45 ?_
  refine lv_if_ne (tgt := 61) hx hb dX8_offset_48 (by decide) (fun _ => ?_) (fun c9 => absurd c9 (by decide))
  have hP9 := hP
  have hD9 := hD
  exact W.vret hx hb hr (fun t ht hW => ⟨⟨(), rfl, trivial, by rw [ht]; exact hP9, va_K.moved hW.alike hK, hD9⟩, hS.F ht⟩) hS.2.2 dX8_offset_61

set_option maxHeartbeats 4000000 in
set_option maxRecDepth 100000 in
/-- offset, refused 2 -/
theorem c_X8_offset_no2 (l : Launch) (dC : Nat → ClassId) (dI : Nat → Nat → Nat) (cI cZ cJ : ClassId) (m0 : Nat) (m1 : Nat) (m2 : Nat) (m3 : Nat) (m4 : Nat) (m5 : Nat) (m6 : Nat) (th : Int32) (tp : Int32) (ty : Int32) (sf : Int32) (rdg : Int32) (dx : Int32) (dy : Int32) (p0 : Int32) (q0 : Int32) (p1 : Int32) (q1 : Int32) (kp : Int32) (w : Nat) (h : Nat) (rwd : Nat) (rht : Nat) (k : Nat) (sk : Nat) (tr : Nat) (co : Nat) (b : Nat) (ma : Int64) (mc : Int64) (mt : Int32) (x : Int32) (y : Int32) (hno : sp_iw x (-20) 20 = 0 ∨ sp_iw y (-20) 20 = 0) (sz : Nat) : Met l yX8_offset wsX8_offset ({ frames := 0, cells := 0, slots := 0, locals := 0 }) (hw_Pre (dC, dI) vwCl (ty3 cI cZ cJ) [(m0, .inr (7, [.int th, .ref m1, .int (nI w), .int (nI h), .int tp, .int ty, .ref m2, .ref m3, .int sf, .int rdg, .int 1, .int (nI rwd), .int (nI rht), .ref m4, .int dx, .int dy, .int p0, .int q0, .int p1, .int q1, .int kp, .ref m5, .ref m6, .int (nI k), .int (nI sk), .int (nI tr), .int (nI co), .long ma, .long mc, .int mt, .int (nI b)]))] sz [.ref m0, .int x, .int y]) (va_Qv (fun _ : Unit => True) (hw_at (dC, dI) vwCl (ty3 cI cZ cJ) (fun _ : Unit => [(m0, .inr (7, [.int 2, .ref m1, .int (nI w), .int (nI h), .int tp, .int ty, .ref m2, .ref m3, .int sf, .int rdg, .int 1, .int (nI rwd), .int (nI rht), .ref m4, .int dx, .int dy, .int p0, .int q0, .int p1, .int q1, .int kp, .ref m5, .ref m6, .int (nI k), .int (nI sk), .int (nI tr), .int (nI co), .long ma, .long mc, .int mt, .int (nI b)]))]) (va_A [(m0, .inr (7, [.int th, .ref m1, .int (nI w), .int (nI h), .int tp, .int ty, .ref m2, .ref m3, .int sf, .int rdg, .int 1, .int (nI rwd), .int (nI rht), .ref m4, .int dx, .int dy, .int p0, .int q0, .int p1, .int q1, .int kp, .ref m5, .ref m6, .int (nI k), .int (nI sk), .int (nI tr), .int (nI co), .long ma, .long mc, .int mt, .int (nI b)]))] sz)) (va_A [(m0, .inr (7, [.int th, .ref m1, .int (nI w), .int (nI h), .int tp, .int ty, .ref m2, .ref m3, .int sf, .int rdg, .int 1, .int (nI rwd), .int (nI rht), .ref m4, .int dx, .int dy, .int p0, .int q0, .int p1, .int q1, .int kp, .ref m5, .ref m6, .int (nI k), .int (nI sk), .int (nI tr), .int (nI co), .long ma, .long mc, .int mt, .int (nI b)]))] sz)) 0 0 (va_A [(m0, .inr (7, [.int th, .ref m1, .int (nI w), .int (nI h), .int tp, .int ty, .ref m2, .ref m3, .int sf, .int rdg, .int 1, .int (nI rwd), .int (nI rht), .ref m4, .int dx, .int dy, .int p0, .int q0, .int p1, .int q1, .int kp, .ref m5, .ref m6, .int (nI k), .int (nI sk), .int (nI tr), .int (nI co), .long ma, .long mc, .int mt, .int (nI b)]))] sz) := by
  refine Met.ofW (cc := cX8_offset) (maxL := 3) (ret := none) (by decide) rfl ?_
  intro pg ev s m args below meth cd s₁ B hml hv
  obtain ⟨rfl, hsz, hP, hK, hN, hZ, hD0⟩ := hv
  have hx := B.exec
  have hb := B.bytes
  have hr := B.returns
  have hts := atoms_spec (ws := wsX8_offset) B.pre
  have hown : s.vm.findClass RX8 = some m.cls := findClass_of_methodNamed B.named
  have hlocks := B.notSynchronized
  subst hsz
  have hD := hD0.self (sz := s.heap.size)
  generalize hAe : va_A [(m0, .inr (7, [.int th, .ref m1, .int (nI w), .int (nI h), .int tp, .int ty, .ref m2, .ref m3, .int sf, .int rdg, .int 1, .int (nI rwd), .int (nI rht), .ref m4, .int dx, .int dy, .int p0, .int q0, .int p1, .int q1, .int kp, .ref m5, .ref m6, .int (nI k), .int (nI sk), .int (nI tr), .int (nI co), .long ma, .long mc, .int mt, .int (nI b)]))] s.heap.size = A at hD hZ ⊢
  have hA : ∀ q : Nat, s.heap.size ≤ q → A q := fun q h => by rw [← hAe]; exact Or.inr h
  have hS : va_S A s.heap s.heap [] := va_S.rf
  have hk : hw_K (dC, dI) vwCl (ty3 cI cZ cJ) A s := ⟨hK, hN, hZ⟩
  have hiX8 : ∀ w ∈ u_ws RX8 TX8 31, w ∈ wsX8_offset := by decide +kernel
  have hl := lv_entry ([.ref m0, .int x, .int y]) (n := 3) (Nat.le_of_ble_eq_true rfl)
  rw [lg_entry_eq]
  generalize (lg_sl ([.ref m0, .int x, .int y]) ++ List.replicate (3 - (lg_sl ([.ref m0, .int x, .int y])).length) Slot.unset).toArray = ls at hl ⊢
  have hl : lv_has ls 3 [(0, .ref m0), (1, .int x), (2, .int y)] := hl
  refine lv_aload_n hx hb dX8_offset_0 rfl (lv_at hl 0 rfl) ?_
  refine lv_aload_n hx hb dX8_offset_1 rfl (lv_at hl 0 rfl) ?_
  refine va_get (D := (dC, dI)) (ci := 7) (v := .int 1) (C := RX8) (T := TX8) (N := 31) hx hb hts hiX8 hown hK hP 0 rfl rfl 10 (by decide) (hts (.fieldLink RX8 65 "RefineRegionsModel" "hasReference" "Z") (by decide +kernel)) (fun _ h9 => h9) rfl dX8_offset_2 ?_
  refine lv_if_ne (tgt := 12) hx hb dX8_offset_5 (by decide) (fun _ => ?_) (fun c9 => absurd c9 (by decide))
  refine lv_iload_n hx hb dX8_offset_12 rfl (lv_at hl 1 rfl) ?_
  refine lv_bipush (v := (-20)) hx hb dX8_offset_13 (by decide) ?_
  refine lv_icmp_lt (tgt := 36) hx hb dX8_offset_15 (by decide) (fun c_15 => ?_) (fun c_15 => ?_)
  · refine lv_iconst (v := 2) hx hb dX8_offset_36 (by decide) ?_
    refine lv_goto (tgt := 41) hx hb dX8_offset_37 (by decide) ?_
    refine va_put (D := (dC, dI)) (ci := 7) (v := .int 2) (ty := .int) (C := RX8) (T := TX8) (N := 31) hx hb hts hiX8 tyX8 tyX8_ok nmX8 hown hK hP hD hS 0 rfl rfl 0 (by decide) (hts (.fieldLink RX8 48 "RefineRegionsModel" "thrown" "I") (by decide +kernel)) (fun _ h9 => h9) rfl (by decide +kernel) rfl rfl (Nat.le_of_ble_eq_true rfl) dX8_offset_41 (fun H locs hP hD hS => ?_)
    have hP : va_P (dC, dI) vwCl [(m0, .inr (7, [.int 2, .ref m1, .int (nI w), .int (nI h), .int tp, .int ty, .ref m2, .ref m3, .int sf, .int rdg, .int 1, .int (nI rwd), .int (nI rht), .ref m4, .int dx, .int dy, .int p0, .int q0, .int p1, .int q1, .int kp, .ref m5, .ref m6, .int (nI k), .int (nI sk), .int (nI tr), .int (nI co), .long ma, .long mc, .int mt, .int (nI b)]))] H := hP
    have hD : va_D A [(m0, .inr (7, [.int 2, .ref m1, .int (nI w), .int (nI h), .int tp, .int ty, .ref m2, .ref m3, .int sf, .int rdg, .int 1, .int (nI rwd), .int (nI rht), .ref m4, .int dx, .int dy, .int p0, .int q0, .int p1, .int q1, .int kp, .ref m5, .ref m6, .int (nI k), .int (nI sk), .int (nI tr), .int (nI co), .long ma, .long mc, .int mt, .int (nI b)]))] := hD
    refine lv_aload_n hx hb dX8_offset_44 rfl (lv_at hl 0 rfl) ?_
    refine va_get (D := (dC, dI)) (ci := 7) (v := .int 2) (C := RX8) (T := TX8) (N := 31) hx hb hts hiX8 hown hK hP 0 rfl rfl 0 (by decide) (hts (.fieldLink RX8 48 "RefineRegionsModel" "thrown" "I") (by decide +kernel)) (fun _ h9 => h9) rfl dX8_offset_45 ?_
    refine lv_if_ne (tgt := 61) hx hb dX8_offset_48 (by decide) (fun _ => ?_) (fun c9 => absurd c9 (by decide))
    have hP9 := hP
    have hD9 := hD
    exact W.vret hx hb hr (fun t ht hW => ⟨⟨(), rfl, trivial, by rw [ht]; exact hP9, va_K.moved hW.alike hK, hD9⟩, hS.F ht⟩) hS.2.2 dX8_offset_61
  · refine lv_iload_n hx hb dX8_offset_18 rfl (lv_at hl 1 rfl) ?_
    refine lv_bipush (v := 20) hx hb dX8_offset_19 (by decide) ?_
    refine lv_icmp_gt (tgt := 36) hx hb dX8_offset_21 (by decide) (fun c_21 => ?_) (fun c_21 => ?_)
    · refine lv_iconst (v := 2) hx hb dX8_offset_36 (by decide) ?_
      refine lv_goto (tgt := 41) hx hb dX8_offset_37 (by decide) ?_
      refine va_put (D := (dC, dI)) (ci := 7) (v := .int 2) (ty := .int) (C := RX8) (T := TX8) (N := 31) hx hb hts hiX8 tyX8 tyX8_ok nmX8 hown hK hP hD hS 0 rfl rfl 0 (by decide) (hts (.fieldLink RX8 48 "RefineRegionsModel" "thrown" "I") (by decide +kernel)) (fun _ h9 => h9) rfl (by decide +kernel) rfl rfl (Nat.le_of_ble_eq_true rfl) dX8_offset_41 (fun H locs hP hD hS => ?_)
      have hP : va_P (dC, dI) vwCl [(m0, .inr (7, [.int 2, .ref m1, .int (nI w), .int (nI h), .int tp, .int ty, .ref m2, .ref m3, .int sf, .int rdg, .int 1, .int (nI rwd), .int (nI rht), .ref m4, .int dx, .int dy, .int p0, .int q0, .int p1, .int q1, .int kp, .ref m5, .ref m6, .int (nI k), .int (nI sk), .int (nI tr), .int (nI co), .long ma, .long mc, .int mt, .int (nI b)]))] H := hP
      have hD : va_D A [(m0, .inr (7, [.int 2, .ref m1, .int (nI w), .int (nI h), .int tp, .int ty, .ref m2, .ref m3, .int sf, .int rdg, .int 1, .int (nI rwd), .int (nI rht), .ref m4, .int dx, .int dy, .int p0, .int q0, .int p1, .int q1, .int kp, .ref m5, .ref m6, .int (nI k), .int (nI sk), .int (nI tr), .int (nI co), .long ma, .long mc, .int mt, .int (nI b)]))] := hD
      refine lv_aload_n hx hb dX8_offset_44 rfl (lv_at hl 0 rfl) ?_
      refine va_get (D := (dC, dI)) (ci := 7) (v := .int 2) (C := RX8) (T := TX8) (N := 31) hx hb hts hiX8 hown hK hP 0 rfl rfl 0 (by decide) (hts (.fieldLink RX8 48 "RefineRegionsModel" "thrown" "I") (by decide +kernel)) (fun _ h9 => h9) rfl dX8_offset_45 ?_
      refine lv_if_ne (tgt := 61) hx hb dX8_offset_48 (by decide) (fun _ => ?_) (fun c9 => absurd c9 (by decide))
      have hP9 := hP
      have hD9 := hD
      exact W.vret hx hb hr (fun t ht hW => ⟨⟨(), rfl, trivial, by rw [ht]; exact hP9, va_K.moved hW.alike hK, hD9⟩, hS.F ht⟩) hS.2.2 dX8_offset_61
    · refine lv_iload_n hx hb dX8_offset_24 rfl (lv_at hl 2 rfl) ?_
      refine lv_bipush (v := (-20)) hx hb dX8_offset_25 (by decide) ?_
      refine lv_icmp_lt (tgt := 36) hx hb dX8_offset_27 (by decide) (fun c_27 => ?_) (fun c_27 => ?_)
      · refine lv_iconst (v := 2) hx hb dX8_offset_36 (by decide) ?_
        refine lv_goto (tgt := 41) hx hb dX8_offset_37 (by decide) ?_
        refine va_put (D := (dC, dI)) (ci := 7) (v := .int 2) (ty := .int) (C := RX8) (T := TX8) (N := 31) hx hb hts hiX8 tyX8 tyX8_ok nmX8 hown hK hP hD hS 0 rfl rfl 0 (by decide) (hts (.fieldLink RX8 48 "RefineRegionsModel" "thrown" "I") (by decide +kernel)) (fun _ h9 => h9) rfl (by decide +kernel) rfl rfl (Nat.le_of_ble_eq_true rfl) dX8_offset_41 (fun H locs hP hD hS => ?_)
        have hP : va_P (dC, dI) vwCl [(m0, .inr (7, [.int 2, .ref m1, .int (nI w), .int (nI h), .int tp, .int ty, .ref m2, .ref m3, .int sf, .int rdg, .int 1, .int (nI rwd), .int (nI rht), .ref m4, .int dx, .int dy, .int p0, .int q0, .int p1, .int q1, .int kp, .ref m5, .ref m6, .int (nI k), .int (nI sk), .int (nI tr), .int (nI co), .long ma, .long mc, .int mt, .int (nI b)]))] H := hP
        have hD : va_D A [(m0, .inr (7, [.int 2, .ref m1, .int (nI w), .int (nI h), .int tp, .int ty, .ref m2, .ref m3, .int sf, .int rdg, .int 1, .int (nI rwd), .int (nI rht), .ref m4, .int dx, .int dy, .int p0, .int q0, .int p1, .int q1, .int kp, .ref m5, .ref m6, .int (nI k), .int (nI sk), .int (nI tr), .int (nI co), .long ma, .long mc, .int mt, .int (nI b)]))] := hD
        refine lv_aload_n hx hb dX8_offset_44 rfl (lv_at hl 0 rfl) ?_
        refine va_get (D := (dC, dI)) (ci := 7) (v := .int 2) (C := RX8) (T := TX8) (N := 31) hx hb hts hiX8 hown hK hP 0 rfl rfl 0 (by decide) (hts (.fieldLink RX8 48 "RefineRegionsModel" "thrown" "I") (by decide +kernel)) (fun _ h9 => h9) rfl dX8_offset_45 ?_
        refine lv_if_ne (tgt := 61) hx hb dX8_offset_48 (by decide) (fun _ => ?_) (fun c9 => absurd c9 (by decide))
        have hP9 := hP
        have hD9 := hD
        exact W.vret hx hb hr (fun t ht hW => ⟨⟨(), rfl, trivial, by rw [ht]; exact hP9, va_K.moved hW.alike hK, hD9⟩, hS.F ht⟩) hS.2.2 dX8_offset_61
      · refine lv_iload_n hx hb dX8_offset_30 rfl (lv_at hl 2 rfl) ?_
        refine lv_bipush (v := 20) hx hb dX8_offset_31 (by decide) ?_
        refine lv_icmp_le (tgt := 40) hx hb dX8_offset_33 (by decide) (fun c_33 => absurd c_33 (fun h9 => sp_iw_2no hno c_15 c_21 c_27 (Int32.not_lt.mpr h9))) (fun c_33 => ?_)
        refine lv_iconst (v := 2) hx hb dX8_offset_36 (by decide) ?_
        refine lv_goto (tgt := 41) hx hb dX8_offset_37 (by decide) ?_
        refine va_put (D := (dC, dI)) (ci := 7) (v := .int 2) (ty := .int) (C := RX8) (T := TX8) (N := 31) hx hb hts hiX8 tyX8 tyX8_ok nmX8 hown hK hP hD hS 0 rfl rfl 0 (by decide) (hts (.fieldLink RX8 48 "RefineRegionsModel" "thrown" "I") (by decide +kernel)) (fun _ h9 => h9) rfl (by decide +kernel) rfl rfl (Nat.le_of_ble_eq_true rfl) dX8_offset_41 (fun H locs hP hD hS => ?_)
        have hP : va_P (dC, dI) vwCl [(m0, .inr (7, [.int 2, .ref m1, .int (nI w), .int (nI h), .int tp, .int ty, .ref m2, .ref m3, .int sf, .int rdg, .int 1, .int (nI rwd), .int (nI rht), .ref m4, .int dx, .int dy, .int p0, .int q0, .int p1, .int q1, .int kp, .ref m5, .ref m6, .int (nI k), .int (nI sk), .int (nI tr), .int (nI co), .long ma, .long mc, .int mt, .int (nI b)]))] H := hP
        have hD : va_D A [(m0, .inr (7, [.int 2, .ref m1, .int (nI w), .int (nI h), .int tp, .int ty, .ref m2, .ref m3, .int sf, .int rdg, .int 1, .int (nI rwd), .int (nI rht), .ref m4, .int dx, .int dy, .int p0, .int q0, .int p1, .int q1, .int kp, .ref m5, .ref m6, .int (nI k), .int (nI sk), .int (nI tr), .int (nI co), .long ma, .long mc, .int mt, .int (nI b)]))] := hD
        refine lv_aload_n hx hb dX8_offset_44 rfl (lv_at hl 0 rfl) ?_
        refine va_get (D := (dC, dI)) (ci := 7) (v := .int 2) (C := RX8) (T := TX8) (N := 31) hx hb hts hiX8 hown hK hP 0 rfl rfl 0 (by decide) (hts (.fieldLink RX8 48 "RefineRegionsModel" "thrown" "I") (by decide +kernel)) (fun _ h9 => h9) rfl dX8_offset_45 ?_
        refine lv_if_ne (tgt := 61) hx hb dX8_offset_48 (by decide) (fun _ => ?_) (fun c9 => absurd c9 (by decide))
        have hP9 := hP
        have hD9 := hD
        exact W.vret hx hb hr (fun t ht hW => ⟨⟨(), rfl, trivial, by rw [ht]; exact hP9, va_K.moved hW.alike hK, hD9⟩, hS.F ht⟩) hS.2.2 dX8_offset_61

set_option maxHeartbeats 4000000 in
set_option maxRecDepth 100000 in
/-- adaptive(0, x, y), where it is allowed -/
theorem c_X8_adaptive_0 (l : Launch) (dC : Nat → ClassId) (dI : Nat → Nat → Nat) (cI cZ cJ : ClassId) (m0 : Nat) (m1 : Nat) (m2 : Nat) (m3 : Nat) (m4 : Nat) (m5 : Nat) (m6 : Nat) (th : Int32) (tp : Int32) (ty : Int32) (sf : Int32) (rdg : Int32) (rt : Int32) (dx : Int32) (dy : Int32) (p0 : Int32) (q0 : Int32) (p1 : Int32) (q1 : Int32) (kp : Int32) (w : Nat) (h : Nat) (rwd : Nat) (rht : Nat) (k : Nat) (sk : Nat) (tr : Nat) (co : Nat) (b : Nat) (ma : Int64) (mc : Int64) (mt : Int32) (x : Int32) (y : Int32) (hx1 : ¬ sp_pl0 x y = 0) (sz : Nat) : Met l yX8_adaptive wsX8_adaptive ({ frames := 0, cells := 0, slots := 0, locals := 0 }) (hw_Pre (dC, dI) vwCl (ty3 cI cZ cJ) [(m0, .inr (7, [.int th, .ref m1, .int (nI w), .int (nI h), .int tp, .int ty, .ref m2, .ref m3, .int sf, .int rdg, .int rt, .int (nI rwd), .int (nI rht), .ref m4, .int dx, .int dy, .int p0, .int q0, .int p1, .int q1, .int kp, .ref m5, .ref m6, .int (nI k), .int (nI sk), .int (nI tr), .int (nI co), .long ma, .long mc, .int mt, .int (nI b)]))] sz [.ref m0, .int 0, .int x, .int y]) (va_Qv (fun _ : Unit => True) (hw_at (dC, dI) vwCl (ty3 cI cZ cJ) (fun _ : Unit => [(m0, .inr (7, [.int 0, .ref m1, .int (nI w), .int (nI h), .int tp, .int ty, .ref m2, .ref m3, .int sf, .int rdg, .int rt, .int (nI rwd), .int (nI rht), .ref m4, .int dx, .int dy, .int x, .int y, .int p1, .int q1, .int kp, .ref m5, .ref m6, .int (nI k), .int (nI sk), .int (nI tr), .int (nI co), .long ma, .long mc, .int mt, .int (nI b)]))]) (va_A [(m0, .inr (7, [.int th, .ref m1, .int (nI w), .int (nI h), .int tp, .int ty, .ref m2, .ref m3, .int sf, .int rdg, .int rt, .int (nI rwd), .int (nI rht), .ref m4, .int dx, .int dy, .int p0, .int q0, .int p1, .int q1, .int kp, .ref m5, .ref m6, .int (nI k), .int (nI sk), .int (nI tr), .int (nI co), .long ma, .long mc, .int mt, .int (nI b)]))] sz)) (va_A [(m0, .inr (7, [.int th, .ref m1, .int (nI w), .int (nI h), .int tp, .int ty, .ref m2, .ref m3, .int sf, .int rdg, .int rt, .int (nI rwd), .int (nI rht), .ref m4, .int dx, .int dy, .int p0, .int q0, .int p1, .int q1, .int kp, .ref m5, .ref m6, .int (nI k), .int (nI sk), .int (nI tr), .int (nI co), .long ma, .long mc, .int mt, .int (nI b)]))] sz)) 0 0 (va_A [(m0, .inr (7, [.int th, .ref m1, .int (nI w), .int (nI h), .int tp, .int ty, .ref m2, .ref m3, .int sf, .int rdg, .int rt, .int (nI rwd), .int (nI rht), .ref m4, .int dx, .int dy, .int p0, .int q0, .int p1, .int q1, .int kp, .ref m5, .ref m6, .int (nI k), .int (nI sk), .int (nI tr), .int (nI co), .long ma, .long mc, .int mt, .int (nI b)]))] sz) := by
  refine Met.ofW (cc := cX8_adaptive) (maxL := 5) (ret := none) (by decide) rfl ?_
  intro pg ev s m args below meth cd s₁ B hml hv
  obtain ⟨rfl, hsz, hP, hK, hN, hZ, hD0⟩ := hv
  have hx := B.exec
  have hb := B.bytes
  have hr := B.returns
  have hts := atoms_spec (ws := wsX8_adaptive) B.pre
  have hown : s.vm.findClass RX8 = some m.cls := findClass_of_methodNamed B.named
  have hlocks := B.notSynchronized
  subst hsz
  have hD := hD0.self (sz := s.heap.size)
  generalize hAe : va_A [(m0, .inr (7, [.int th, .ref m1, .int (nI w), .int (nI h), .int tp, .int ty, .ref m2, .ref m3, .int sf, .int rdg, .int rt, .int (nI rwd), .int (nI rht), .ref m4, .int dx, .int dy, .int p0, .int q0, .int p1, .int q1, .int kp, .ref m5, .ref m6, .int (nI k), .int (nI sk), .int (nI tr), .int (nI co), .long ma, .long mc, .int mt, .int (nI b)]))] s.heap.size = A at hD hZ ⊢
  have hA : ∀ q : Nat, s.heap.size ≤ q → A q := fun q h => by rw [← hAe]; exact Or.inr h
  have hS : va_S A s.heap s.heap [] := va_S.rf
  have hk : hw_K (dC, dI) vwCl (ty3 cI cZ cJ) A s := ⟨hK, hN, hZ⟩
  have hiX8 : ∀ w ∈ u_ws RX8 TX8 31, w ∈ wsX8_adaptive := by decide +kernel
  have hp9 := sp_pl0_iff.mp hx1
  have hl := lv_entry ([.ref m0, .int 0, .int x, .int y]) (n := 5) (Nat.le_of_ble_eq_true rfl)
  rw [lg_entry_eq]
  generalize (lg_sl ([.ref m0, .int 0, .int x, .int y]) ++ List.replicate (5 - (lg_sl ([.ref m0, .int 0, .int x, .int y])).length) Slot.unset).toArray = ls at hl ⊢
  have hl : lv_has ls 5 [(0, .ref m0), (1, .int 0), (2, .int x), (3, .int y)] := hl
  refine lv_iload_n hx hb dX8_adaptive_0 rfl (lv_at hl 2 rfl) ?_
  refine lv_bipush (v := (-16)) hx hb dX8_adaptive_1 (by decide) ?_
  refine lv_icmp_lt (tgt := 59) hx hb dX8_adaptive_3 (by decide) (fun c_3 => absurd c_3 (hp9.1)) (fun c_3 => ?_)
  refine lv_iload_n hx hb dX8_adaptive_6 rfl (lv_at hl 3 rfl) ?_
  refine lv_bipush (v := (-16)) hx hb dX8_adaptive_7 (by decide) ?_
  refine lv_icmp_lt (tgt := 59) hx hb dX8_adaptive_9 (by decide) (fun c_9 => absurd c_9 (hp9.2.1)) (fun c_9 => ?_)
  refine lv_iload_n hx hb dX8_adaptive_12 rfl (lv_at hl 1 rfl) ?_
  refine lv_if_ne (tgt := 38) hx hb dX8_adaptive_13 (by decide) (fun c9 => absurd c9 (by decide)) (fun _ => ?_)
  refine lv_iload_n hx hb dX8_adaptive_16 rfl (lv_at hl 3 rfl) ?_
  refine lv_if_ge (tgt := 26) hx hb dX8_adaptive_17 (by decide) (fun c_17 => ?_) (fun c_17 => ?_)
  · refine lv_iload_n hx hb dX8_adaptive_26 rfl (lv_at hl 3 rfl) ?_
    refine lv_if_ne (tgt := 59) hx hb dX8_adaptive_27 (by decide) (fun c_27 => absurd c_27 (fun h9 => h9 (hp9.2.2.elim (fun z => absurd c_17 (Int32.not_le.mpr z.1)) (fun z => z.1)))) (fun c_27 => ?_)
    refine lv_iload_n hx hb dX8_adaptive_30 rfl (lv_at hl 2 rfl) ?_
    refine lv_iconst (v := (-1)) hx hb dX8_adaptive_31 (by decide) ?_
    refine lv_icmp_gt (tgt := 59) hx hb dX8_adaptive_32 (by decide) (fun c_32 => absurd c_32 (Int32.not_lt.mpr (hp9.2.2.elim (fun z => absurd c_17 (Int32.not_le.mpr z.1)) (fun z => z.2)))) (fun c_32 => ?_)
    refine lv_goto (tgt := 55) hx hb dX8_adaptive_35 (by decide) ?_
    refine lv_iconst (v := 1) hx hb dX8_adaptive_55 (by decide) ?_
    refine lv_goto (tgt := 60) hx hb dX8_adaptive_56 (by decide) ?_
    refine lv_istore (lv' := [(4, .int 1), (0, .ref m0), (1, .int 0), (2, .int x), (3, .int y)]) hx hb dX8_adaptive_60 hl (by decide) rfl (fun ls hl => ?_)
    refine lv_aload_n hx hb dX8_adaptive_62 rfl (lv_at hl 1 rfl) ?_
    refine lv_iload hx hb dX8_adaptive_63 (lv_at hl 0 rfl) ?_
    refine lv_if_eq (tgt := 72) hx hb dX8_adaptive_65 (by decide) (fun c9 => absurd c9 (by decide)) (fun _ => ?_)
    refine lv_iconst (v := 0) hx hb dX8_adaptive_68 (by decide) ?_
    refine lv_goto (tgt := 73) hx hb dX8_adaptive_69 (by decide) ?_
    refine va_put (D := (dC, dI)) (ci := 7) (v := .int 0) (ty := .int) (C := RX8) (T := TX8) (N := 31) hx hb hts hiX8 tyX8 tyX8_ok nmX8 hown hK hP hD hS 0 rfl rfl 0 (by decide) (hts (.fieldLink RX8 48 "RefineRegionsModel" "thrown" "I") (by decide +kernel)) (fun _ h9 => h9) rfl (by decide +kernel) rfl rfl (Nat.le_of_ble_eq_true rfl) dX8_adaptive_73 (fun H locs hP hD hS => ?_)
    have hP : va_P (dC, dI) vwCl [(m0, .inr (7, [.int 0, .ref m1, .int (nI w), .int (nI h), .int tp, .int ty, .ref m2, .ref m3, .int sf, .int rdg, .int rt, .int (nI rwd), .int (nI rht), .ref m4, .int dx, .int dy, .int p0, .int q0, .int p1, .int q1, .int kp, .ref m5, .ref m6, .int (nI k), .int (nI sk), .int (nI tr), .int (nI co), .long ma, .long mc, .int mt, .int (nI b)]))] H := hP
    have hD : va_D A [(m0, .inr (7, [.int 0, .ref m1, .int (nI w), .int (nI h), .int tp, .int ty, .ref m2, .ref m3, .int sf, .int rdg, .int rt, .int (nI rwd), .int (nI rht), .ref m4, .int dx, .int dy, .int p0, .int q0, .int p1, .int q1, .int kp, .ref m5, .ref m6, .int (nI k), .int (nI sk), .int (nI tr), .int (nI co), .long ma, .long mc, .int mt, .int (nI b)]))] := hD
    refine lv_aload_n hx hb dX8_adaptive_76 rfl (lv_at hl 1 rfl) ?_
    refine va_get (D := (dC, dI)) (ci := 7) (v := .int 0) (C := RX8) (T := TX8) (N := 31) hx hb hts hiX8 hown hK hP 0 rfl rfl 0 (by decide) (hts (.fieldLink RX8 48 "RefineRegionsModel" "thrown" "I") (by decide +kernel)) (fun _ h9 => h9) rfl dX8_adaptive_77 ?_
    refine lv_if_le (tgt := 84) hx hb dX8_adaptive_80 (by decide) (fun _ => ?_) (fun c9 => absurd (by decide) c9)
    refine lv_iload_n hx hb dX8_adaptive_84 rfl (lv_at hl 2 rfl) ?_
    refine lv_if_ne (tgt := 101) hx hb dX8_adaptive_85 (by decide) (fun c9 => absurd c9 (by decide)) (fun _ => ?_)
    refine lv_aload_n hx hb dX8_adaptive_88 rfl (lv_at hl 1 rfl) ?_
    refine lv_iload_n hx hb dX8_adaptive_89 rfl (lv_at hl 3 rfl) ?_
    refine va_put (D := (dC, dI)) (ci := 7) (v := .int x) (ty := .int) (C := RX8) (T := TX8) (N := 31) hx hb hts hiX8 tyX8 tyX8_ok nmX8 hown hK hP hD hS 0 rfl rfl 16 (by decide) (hts (.fieldLink RX8 30 "RefineRegionsModel" "p0" "I") (by decide +kernel)) (fun _ h9 => h9) rfl (by decide +kernel) rfl rfl (Nat.le_of_ble_eq_true rfl) dX8_adaptive_90 (fun H locs hP hD hS => ?_)
    have hP : va_P (dC, dI) vwCl [(m0, .inr (7, [.int 0, .ref m1, .int (nI w), .int (nI h), .int tp, .int ty, .ref m2, .ref m3, .int sf, .int rdg, .int rt, .int (nI rwd), .int (nI rht), .ref m4, .int dx, .int dy, .int x, .int q0, .int p1, .int q1, .int kp, .ref m5, .ref m6, .int (nI k), .int (nI sk), .int (nI tr), .int (nI co), .long ma, .long mc, .int mt, .int (nI b)]))] H := hP
    have hD : va_D A [(m0, .inr (7, [.int 0, .ref m1, .int (nI w), .int (nI h), .int tp, .int ty, .ref m2, .ref m3, .int sf, .int rdg, .int rt, .int (nI rwd), .int (nI rht), .ref m4, .int dx, .int dy, .int x, .int q0, .int p1, .int q1, .int kp, .ref m5, .ref m6, .int (nI k), .int (nI sk), .int (nI tr), .int (nI co), .long ma, .long mc, .int mt, .int (nI b)]))] := hD
    refine lv_aload_n hx hb dX8_adaptive_93 rfl (lv_at hl 1 rfl) ?_
    refine lv_iload_n hx hb dX8_adaptive_94 rfl (lv_at hl 4 rfl) ?_
    refine va_put (D := (dC, dI)) (ci := 7) (v := .int y) (ty := .int) (C := RX8) (T := TX8) (N := 31) hx hb hts hiX8 tyX8 tyX8_ok nmX8 hown hK hP hD hS 0 rfl rfl 17 (by decide) (hts (.fieldLink RX8 33 "RefineRegionsModel" "q0" "I") (by decide +kernel)) (fun _ h9 => h9) rfl (by decide +kernel) rfl rfl (Nat.le_of_ble_eq_true rfl) dX8_adaptive_95 (fun H locs hP hD hS => ?_)
    have hP : va_P (dC, dI) vwCl [(m0, .inr (7, [.int 0, .ref m1, .int (nI w), .int (nI h), .int tp, .int ty, .ref m2, .ref m3, .int sf, .int rdg, .int rt, .int (nI rwd), .int (nI rht), .ref m4, .int dx, .int dy, .int x, .int y, .int p1, .int q1, .int kp, .ref m5, .ref m6, .int (nI k), .int (nI sk), .int (nI tr), .int (nI co), .long ma, .long mc, .int mt, .int (nI b)]))] H := hP
    have hD : va_D A [(m0, .inr (7, [.int 0, .ref m1, .int (nI w), .int (nI h), .int tp, .int ty, .ref m2, .ref m3, .int sf, .int rdg, .int rt, .int (nI rwd), .int (nI rht), .ref m4, .int dx, .int dy, .int x, .int y, .int p1, .int q1, .int kp, .ref m5, .ref m6, .int (nI k), .int (nI sk), .int (nI tr), .int (nI co), .long ma, .long mc, .int mt, .int (nI b)]))] := hD
    refine lv_goto (tgt := 111) hx hb dX8_adaptive_98 (by decide) ?_
    have hP9 := hP
    have hD9 := hD
    exact W.vret hx hb hr (fun t ht hW => ⟨⟨(), rfl, trivial, by rw [ht]; exact hP9, va_K.moved hW.alike hK, hD9⟩, hS.F ht⟩) hS.2.2 dX8_adaptive_111
  · refine lv_iload_n hx hb dX8_adaptive_20 rfl (lv_at hl 2 rfl) ?_
    refine lv_bipush (v := 15) hx hb dX8_adaptive_21 (by decide) ?_
    refine lv_icmp_le (tgt := 55) hx hb dX8_adaptive_23 (by decide) (fun c_23 => ?_) (fun c_23 => absurd (hp9.2.2.elim (fun z => z.2) (fun z => absurd (Int32.not_le.mp c_17) (by rw [z.1]; decide))) c_23)
    refine lv_iconst (v := 1) hx hb dX8_adaptive_55 (by decide) ?_
    refine lv_goto (tgt := 60) hx hb dX8_adaptive_56 (by decide) ?_
    refine lv_istore (lv' := [(4, .int 1), (0, .ref m0), (1, .int 0), (2, .int x), (3, .int y)]) hx hb dX8_adaptive_60 hl (by decide) rfl (fun ls hl => ?_)
    refine lv_aload_n hx hb dX8_adaptive_62 rfl (lv_at hl 1 rfl) ?_
    refine lv_iload hx hb dX8_adaptive_63 (lv_at hl 0 rfl) ?_
    refine lv_if_eq (tgt := 72) hx hb dX8_adaptive_65 (by decide) (fun c9 => absurd c9 (by decide)) (fun _ => ?_)
    refine lv_iconst (v := 0) hx hb dX8_adaptive_68 (by decide) ?_
    refine lv_goto (tgt := 73) hx hb dX8_adaptive_69 (by decide) ?_
    refine va_put (D := (dC, dI)) (ci := 7) (v := .int 0) (ty := .int) (C := RX8) (T := TX8) (N := 31) hx hb hts hiX8 tyX8 tyX8_ok nmX8 hown hK hP hD hS 0 rfl rfl 0 (by decide) (hts (.fieldLink RX8 48 "RefineRegionsModel" "thrown" "I") (by decide +kernel)) (fun _ h9 => h9) rfl (by decide +kernel) rfl rfl (Nat.le_of_ble_eq_true rfl) dX8_adaptive_73 (fun H locs hP hD hS => ?_)
    have hP : va_P (dC, dI) vwCl [(m0, .inr (7, [.int 0, .ref m1, .int (nI w), .int (nI h), .int tp, .int ty, .ref m2, .ref m3, .int sf, .int rdg, .int rt, .int (nI rwd), .int (nI rht), .ref m4, .int dx, .int dy, .int p0, .int q0, .int p1, .int q1, .int kp, .ref m5, .ref m6, .int (nI k), .int (nI sk), .int (nI tr), .int (nI co), .long ma, .long mc, .int mt, .int (nI b)]))] H := hP
    have hD : va_D A [(m0, .inr (7, [.int 0, .ref m1, .int (nI w), .int (nI h), .int tp, .int ty, .ref m2, .ref m3, .int sf, .int rdg, .int rt, .int (nI rwd), .int (nI rht), .ref m4, .int dx, .int dy, .int p0, .int q0, .int p1, .int q1, .int kp, .ref m5, .ref m6, .int (nI k), .int (nI sk), .int (nI tr), .int (nI co), .long ma, .long mc, .int mt, .int (nI b)]))] := hD
    refine lv_aload_n hx hb dX8_adaptive_76 rfl (lv_at hl 1 rfl) ?_
    refine va_get (D := (dC, dI)) (ci := 7) (v := .int 0) (C := RX8) (T := TX8) (N := 31) hx hb hts hiX8 hown hK hP 0 rfl rfl 0 (by decide) (hts (.fieldLink RX8 48 "RefineRegionsModel" "thrown" "I") (by decide +kernel)) (fun _ h9 => h9) rfl dX8_adaptive_77 ?_
    refine lv_if_le (tgt := 84) hx hb dX8_adaptive_80 (by decide) (fun _ => ?_) (fun c9 => absurd (by decide) c9)
    refine lv_iload_n hx hb dX8_adaptive_84 rfl (lv_at hl 2 rfl) ?_
    refine lv_if_ne (tgt := 101) hx hb dX8_adaptive_85 (by decide) (fun c9 => absurd c9 (by decide)) (fun _ => ?_)
    refine lv_aload_n hx hb dX8_adaptive_88 rfl (lv_at hl 1 rfl) ?_
    refine lv_iload_n hx hb dX8_adaptive_89 rfl (lv_at hl 3 rfl) ?_
    refine va_put (D := (dC, dI)) (ci := 7) (v := .int x) (ty := .int) (C := RX8) (T := TX8) (N := 31) hx hb hts hiX8 tyX8 tyX8_ok nmX8 hown hK hP hD hS 0 rfl rfl 16 (by decide) (hts (.fieldLink RX8 30 "RefineRegionsModel" "p0" "I") (by decide +kernel)) (fun _ h9 => h9) rfl (by decide +kernel) rfl rfl (Nat.le_of_ble_eq_true rfl) dX8_adaptive_90 (fun H locs hP hD hS => ?_)
    have hP : va_P (dC, dI) vwCl [(m0, .inr (7, [.int 0, .ref m1, .int (nI w), .int (nI h), .int tp, .int ty, .ref m2, .ref m3, .int sf, .int rdg, .int rt, .int (nI rwd), .int (nI rht), .ref m4, .int dx, .int dy, .int x, .int q0, .int p1, .int q1, .int kp, .ref m5, .ref m6, .int (nI k), .int (nI sk), .int (nI tr), .int (nI co), .long ma, .long mc, .int mt, .int (nI b)]))] H := hP
    have hD : va_D A [(m0, .inr (7, [.int 0, .ref m1, .int (nI w), .int (nI h), .int tp, .int ty, .ref m2, .ref m3, .int sf, .int rdg, .int rt, .int (nI rwd), .int (nI rht), .ref m4, .int dx, .int dy, .int x, .int q0, .int p1, .int q1, .int kp, .ref m5, .ref m6, .int (nI k), .int (nI sk), .int (nI tr), .int (nI co), .long ma, .long mc, .int mt, .int (nI b)]))] := hD
    refine lv_aload_n hx hb dX8_adaptive_93 rfl (lv_at hl 1 rfl) ?_
    refine lv_iload_n hx hb dX8_adaptive_94 rfl (lv_at hl 4 rfl) ?_
    refine va_put (D := (dC, dI)) (ci := 7) (v := .int y) (ty := .int) (C := RX8) (T := TX8) (N := 31) hx hb hts hiX8 tyX8 tyX8_ok nmX8 hown hK hP hD hS 0 rfl rfl 17 (by decide) (hts (.fieldLink RX8 33 "RefineRegionsModel" "q0" "I") (by decide +kernel)) (fun _ h9 => h9) rfl (by decide +kernel) rfl rfl (Nat.le_of_ble_eq_true rfl) dX8_adaptive_95 (fun H locs hP hD hS => ?_)
    have hP : va_P (dC, dI) vwCl [(m0, .inr (7, [.int 0, .ref m1, .int (nI w), .int (nI h), .int tp, .int ty, .ref m2, .ref m3, .int sf, .int rdg, .int rt, .int (nI rwd), .int (nI rht), .ref m4, .int dx, .int dy, .int x, .int y, .int p1, .int q1, .int kp, .ref m5, .ref m6, .int (nI k), .int (nI sk), .int (nI tr), .int (nI co), .long ma, .long mc, .int mt, .int (nI b)]))] H := hP
    have hD : va_D A [(m0, .inr (7, [.int 0, .ref m1, .int (nI w), .int (nI h), .int tp, .int ty, .ref m2, .ref m3, .int sf, .int rdg, .int rt, .int (nI rwd), .int (nI rht), .ref m4, .int dx, .int dy, .int x, .int y, .int p1, .int q1, .int kp, .ref m5, .ref m6, .int (nI k), .int (nI sk), .int (nI tr), .int (nI co), .long ma, .long mc, .int mt, .int (nI b)]))] := hD
    refine lv_goto (tgt := 111) hx hb dX8_adaptive_98 (by decide) ?_
    have hP9 := hP
    have hD9 := hD
    exact W.vret hx hb hr (fun t ht hW => ⟨⟨(), rfl, trivial, by rw [ht]; exact hP9, va_K.moved hW.alike hK, hD9⟩, hS.F ht⟩) hS.2.2 dX8_adaptive_111

set_option maxHeartbeats 4000000 in
set_option maxRecDepth 100000 in
/-- adaptive(1, x, y), where it is allowed -/
theorem c_X8_adaptive_1 (l : Launch) (dC : Nat → ClassId) (dI : Nat → Nat → Nat) (cI cZ cJ : ClassId) (m0 : Nat) (m1 : Nat) (m2 : Nat) (m3 : Nat) (m4 : Nat) (m5 : Nat) (m6 : Nat) (th : Int32) (tp : Int32) (ty : Int32) (sf : Int32) (rdg : Int32) (rt : Int32) (dx : Int32) (dy : Int32) (p0 : Int32) (q0 : Int32) (p1 : Int32) (q1 : Int32) (kp : Int32) (w : Nat) (h : Nat) (rwd : Nat) (rht : Nat) (k : Nat) (sk : Nat) (tr : Nat) (co : Nat) (b : Nat) (ma : Int64) (mc : Int64) (mt : Int32) (x : Int32) (y : Int32) (hx1 : ¬ sp_pl1 x y = 0) (sz : Nat) : Met l yX8_adaptive wsX8_adaptive ({ frames := 0, cells := 0, slots := 0, locals := 0 }) (hw_Pre (dC, dI) vwCl (ty3 cI cZ cJ) [(m0, .inr (7, [.int th, .ref m1, .int (nI w), .int (nI h), .int tp, .int ty, .ref m2, .ref m3, .int sf, .int rdg, .int rt, .int (nI rwd), .int (nI rht), .ref m4, .int dx, .int dy, .int p0, .int q0, .int p1, .int q1, .int kp, .ref m5, .ref m6, .int (nI k), .int (nI sk), .int (nI tr), .int (nI co), .long ma, .long mc, .int mt, .int (nI b)]))] sz [.ref m0, .int 1, .int x, .int y]) (va_Qv (fun _ : Unit => True) (hw_at (dC, dI) vwCl (ty3 cI cZ cJ) (fun _ : Unit => [(m0, .inr (7, [.int 0, .ref m1, .int (nI w), .int (nI h), .int tp, .int ty, .ref m2, .ref m3, .int sf, .int rdg, .int rt, .int (nI rwd), .int (nI rht), .ref m4, .int dx, .int dy, .int p0, .int q0, .int x, .int y, .int kp, .ref m5, .ref m6, .int (nI k), .int (nI sk), .int (nI tr), .int (nI co), .long ma, .long mc, .int mt, .int (nI b)]))]) (va_A [(m0, .inr (7, [.int th, .ref m1, .int (nI w), .int (nI h), .int tp, .int ty, .ref m2, .ref m3, .int sf, .int rdg, .int rt, .int (nI rwd), .int (nI rht), .ref m4, .int dx, .int dy, .int p0, .int q0, .int p1, .int q1, .int kp, .ref m5, .ref m6, .int (nI k), .int (nI sk), .int (nI tr), .int (nI co), .long ma, .long mc, .int mt, .int (nI b)]))] sz)) (va_A [(m0, .inr (7, [.int th, .ref m1, .int (nI w), .int (nI h), .int tp, .int ty, .ref m2, .ref m3, .int sf, .int rdg, .int rt, .int (nI rwd), .int (nI rht), .ref m4, .int dx, .int dy, .int p0, .int q0, .int p1, .int q1, .int kp, .ref m5, .ref m6, .int (nI k), .int (nI sk), .int (nI tr), .int (nI co), .long ma, .long mc, .int mt, .int (nI b)]))] sz)) 0 0 (va_A [(m0, .inr (7, [.int th, .ref m1, .int (nI w), .int (nI h), .int tp, .int ty, .ref m2, .ref m3, .int sf, .int rdg, .int rt, .int (nI rwd), .int (nI rht), .ref m4, .int dx, .int dy, .int p0, .int q0, .int p1, .int q1, .int kp, .ref m5, .ref m6, .int (nI k), .int (nI sk), .int (nI tr), .int (nI co), .long ma, .long mc, .int mt, .int (nI b)]))] sz) := by
  refine Met.ofW (cc := cX8_adaptive) (maxL := 5) (ret := none) (by decide) rfl ?_
  intro pg ev s m args below meth cd s₁ B hml hv
  obtain ⟨rfl, hsz, hP, hK, hN, hZ, hD0⟩ := hv
  have hx := B.exec
  have hb := B.bytes
  have hr := B.returns
  have hts := atoms_spec (ws := wsX8_adaptive) B.pre
  have hown : s.vm.findClass RX8 = some m.cls := findClass_of_methodNamed B.named
  have hlocks := B.notSynchronized
  subst hsz
  have hD := hD0.self (sz := s.heap.size)
  generalize hAe : va_A [(m0, .inr (7, [.int th, .ref m1, .int (nI w), .int (nI h), .int tp, .int ty, .ref m2, .ref m3, .int sf, .int rdg, .int rt, .int (nI rwd), .int (nI rht), .ref m4, .int dx, .int dy, .int p0, .int q0, .int p1, .int q1, .int kp, .ref m5, .ref m6, .int (nI k), .int (nI sk), .int (nI tr), .int (nI co), .long ma, .long mc, .int mt, .int (nI b)]))] s.heap.size = A at hD hZ ⊢
  have hA : ∀ q : Nat, s.heap.size ≤ q → A q := fun q h => by rw [← hAe]; exact Or.inr h
  have hS : va_S A s.heap s.heap [] := va_S.rf
  have hk : hw_K (dC, dI) vwCl (ty3 cI cZ cJ) A s := ⟨hK, hN, hZ⟩
  have hiX8 : ∀ w ∈ u_ws RX8 TX8 31, w ∈ wsX8_adaptive := by decide +kernel
  have hp9 := sp_pl1_iff.mp hx1
  have hl := lv_entry ([.ref m0, .int 1, .int x, .int y]) (n := 5) (Nat.le_of_ble_eq_true rfl)
  rw [lg_entry_eq]
  generalize (lg_sl ([.ref m0, .int 1, .int x, .int y]) ++ List.replicate (5 - (lg_sl ([.ref m0, .int 1, .int x, .int y])).length) Slot.unset).toArray = ls at hl ⊢
  have hl : lv_has ls 5 [(0, .ref m0), (1, .int 1), (2, .int x), (3, .int y)] := hl
  refine lv_iload_n hx hb dX8_adaptive_0 rfl (lv_at hl 2 rfl) ?_
  refine lv_bipush (v := (-16)) hx hb dX8_adaptive_1 (by decide) ?_
  refine lv_icmp_lt (tgt := 59) hx hb dX8_adaptive_3 (by decide) (fun c_3 => absurd c_3 (hp9.1)) (fun c_3 => ?_)
  refine lv_iload_n hx hb dX8_adaptive_6 rfl (lv_at hl 3 rfl) ?_
  refine lv_bipush (v := (-16)) hx hb dX8_adaptive_7 (by decide) ?_
  refine lv_icmp_lt (tgt := 59) hx hb dX8_adaptive_9 (by decide) (fun c_9 => absurd c_9 (hp9.2.1)) (fun c_9 => ?_)
  refine lv_iload_n hx hb dX8_adaptive_12 rfl (lv_at hl 1 rfl) ?_
  refine lv_if_ne (tgt := 38) hx hb dX8_adaptive_13 (by decide) (fun _ => ?_) (fun c9 => absurd c9 (by decide))
  refine lv_iload_n hx hb dX8_adaptive_38 rfl (lv_at hl 1 rfl) ?_
  refine lv_iconst (v := 1) hx hb dX8_adaptive_39 (by decide) ?_
  refine lv_icmp_ne (tgt := 59) hx hb dX8_adaptive_40 (by decide) (fun c9 => absurd c9 (by decide)) (fun _ => ?_)
  refine lv_iload_n hx hb dX8_adaptive_43 rfl (lv_at hl 2 rfl) ?_
  refine lv_bipush (v := 15) hx hb dX8_adaptive_44 (by decide) ?_
  refine lv_icmp_gt (tgt := 59) hx hb dX8_adaptive_46 (by decide) (fun c_46 => absurd c_46 (Int32.not_lt.mpr hp9.2.2.1)) (fun c_46 => ?_)
  refine lv_iload_n hx hb dX8_adaptive_49 rfl (lv_at hl 3 rfl) ?_
  refine lv_bipush (v := 15) hx hb dX8_adaptive_50 (by decide) ?_
  refine lv_icmp_gt (tgt := 59) hx hb dX8_adaptive_52 (by decide) (fun c_52 => absurd c_52 (Int32.not_lt.mpr hp9.2.2.2)) (fun c_52 => ?_)
  refine lv_iconst (v := 1) hx hb dX8_adaptive_55 (by decide) ?_
  refine lv_goto (tgt := 60) hx hb dX8_adaptive_56 (by decide) ?_
  refine lv_istore (lv' := [(4, .int 1), (0, .ref m0), (1, .int 1), (2, .int x), (3, .int y)]) hx hb dX8_adaptive_60 hl (by decide) rfl (fun ls hl => ?_)
  refine lv_aload_n hx hb dX8_adaptive_62 rfl (lv_at hl 1 rfl) ?_
  refine lv_iload hx hb dX8_adaptive_63 (lv_at hl 0 rfl) ?_
  refine lv_if_eq (tgt := 72) hx hb dX8_adaptive_65 (by decide) (fun c9 => absurd c9 (by decide)) (fun _ => ?_)
  refine lv_iconst (v := 0) hx hb dX8_adaptive_68 (by decide) ?_
  refine lv_goto (tgt := 73) hx hb dX8_adaptive_69 (by decide) ?_
  refine va_put (D := (dC, dI)) (ci := 7) (v := .int 0) (ty := .int) (C := RX8) (T := TX8) (N := 31) hx hb hts hiX8 tyX8 tyX8_ok nmX8 hown hK hP hD hS 0 rfl rfl 0 (by decide) (hts (.fieldLink RX8 48 "RefineRegionsModel" "thrown" "I") (by decide +kernel)) (fun _ h9 => h9) rfl (by decide +kernel) rfl rfl (Nat.le_of_ble_eq_true rfl) dX8_adaptive_73 (fun H locs hP hD hS => ?_)
  have hP : va_P (dC, dI) vwCl [(m0, .inr (7, [.int 0, .ref m1, .int (nI w), .int (nI h), .int tp, .int ty, .ref m2, .ref m3, .int sf, .int rdg, .int rt, .int (nI rwd), .int (nI rht), .ref m4, .int dx, .int dy, .int p0, .int q0, .int p1, .int q1, .int kp, .ref m5, .ref m6, .int (nI k), .int (nI sk), .int (nI tr), .int (nI co), .long ma, .long mc, .int mt, .int (nI b)]))] H := hP
  have hD : va_D A [(m0, .inr (7, [.int 0, .ref m1, .int (nI w), .int (nI h), .int tp, .int ty, .ref m2, .ref m3, .int sf, .int rdg, .int rt, .int (nI rwd), .int (nI rht), .ref m4, .int dx, .int dy, .int p0, .int q0, .int p1, .int q1, .int kp, .ref m5, .ref m6, .int (nI k), .int (nI sk), .int (nI tr), .int (nI co), .long ma, .long mc, .int mt, .int (nI b)]))] := hD
  refine lv_aload_n hx hb dX8_adaptive_76 rfl (lv_at hl 1 rfl) ?_
  refine va_get (D := (dC, dI)) (ci := 7) (v := .int 0) (C := RX8) (T := TX8) (N := 31) hx hb hts hiX8 hown hK hP 0 rfl rfl 0 (by decide) (hts (.fieldLink RX8 48 "RefineRegionsModel" "thrown" "I") (by decide +kernel)) (fun _ h9 => h9) rfl dX8_adaptive_77 ?_
  refine lv_if_le (tgt := 84) hx hb dX8_adaptive_80 (by decide) (fun _ => ?_) (fun c9 => absurd (by decide) c9)
  refine lv_iload_n hx hb dX8_adaptive_84 rfl (lv_at hl 2 rfl) ?_
  refine lv_if_ne (tgt := 101) hx hb dX8_adaptive_85 (by decide) (fun _ => ?_) (fun c9 => absurd c9 (by decide))
  refine lv_aload_n hx hb dX8_adaptive_101 rfl (lv_at hl 1 rfl) ?_
  refine lv_iload_n hx hb dX8_adaptive_102 rfl (lv_at hl 3 rfl) ?_
  refine va_put (D := (dC, dI)) (ci := 7) (v := .int x) (ty := .int) (C := RX8) (T := TX8) (N := 31) hx hb hts hiX8 tyX8 tyX8_ok nmX8 hown hK hP hD hS 0 rfl rfl 18 (by decide) (hts (.fieldLink RX8 36 "RefineRegionsModel" "p1" "I") (by decide +kernel)) (fun _ h9 => h9) rfl (by decide +kernel) rfl rfl (Nat.le_of_ble_eq_true rfl) dX8_adaptive_103 (fun H locs hP hD hS => ?_)
  have hP : va_P (dC, dI) vwCl [(m0, .inr (7, [.int 0, .ref m1, .int (nI w), .int (nI h), .int tp, .int ty, .ref m2, .ref m3, .int sf, .int rdg, .int rt, .int (nI rwd), .int (nI rht), .ref m4, .int dx, .int dy, .int p0, .int q0, .int x, .int q1, .int kp, .ref m5, .ref m6, .int (nI k), .int (nI sk), .int (nI tr), .int (nI co), .long ma, .long mc, .int mt, .int (nI b)]))] H := hP
  have hD : va_D A [(m0, .inr (7, [.int 0, .ref m1, .int (nI w), .int (nI h), .int tp, .int ty, .ref m2, .ref m3, .int sf, .int rdg, .int rt, .int (nI rwd), .int (nI rht), .ref m4, .int dx, .int dy, .int p0, .int q0, .int x, .int q1, .int kp, .ref m5, .ref m6, .int (nI k), .int (nI sk), .int (nI tr), .int (nI co), .long ma, .long mc, .int mt, .int (nI b)]))] := hD
  refine lv_aload_n hx hb dX8_adaptive_106 rfl (lv_at hl 1 rfl) ?_
  refine lv_iload_n hx hb dX8_adaptive_107 rfl (lv_at hl 4 rfl) ?_
  refine va_put (D := (dC, dI)) (ci := 7) (v := .int y) (ty := .int) (C := RX8) (T := TX8) (N := 31) hx hb hts hiX8 tyX8 tyX8_ok nmX8 hown hK hP hD hS 0 rfl rfl 19 (by decide) (hts (.fieldLink RX8 39 "RefineRegionsModel" "q1" "I") (by decide +kernel)) (fun _ h9 => h9) rfl (by decide +kernel) rfl rfl (Nat.le_of_ble_eq_true rfl) dX8_adaptive_108 (fun H locs hP hD hS => ?_)
  have hP : va_P (dC, dI) vwCl [(m0, .inr (7, [.int 0, .ref m1, .int (nI w), .int (nI h), .int tp, .int ty, .ref m2, .ref m3, .int sf, .int rdg, .int rt, .int (nI rwd), .int (nI rht), .ref m4, .int dx, .int dy, .int p0, .int q0, .int x, .int y, .int kp, .ref m5, .ref m6, .int (nI k), .int (nI sk), .int (nI tr), .int (nI co), .long ma, .long mc, .int mt, .int (nI b)]))] H := hP
  have hD : va_D A [(m0, .inr (7, [.int 0, .ref m1, .int (nI w), .int (nI h), .int tp, .int ty, .ref m2, .ref m3, .int sf, .int rdg, .int rt, .int (nI rwd), .int (nI rht), .ref m4, .int dx, .int dy, .int p0, .int q0, .int x, .int y, .int kp, .ref m5, .ref m6, .int (nI k), .int (nI sk), .int (nI tr), .int (nI co), .long ma, .long mc, .int mt, .int (nI b)]))] := hD
  have hP9 := hP
  have hD9 := hD
  exact W.vret hx hb hr (fun t ht hW => ⟨⟨(), rfl, trivial, by rw [ht]; exact hP9, va_K.moved hW.alike hK, hD9⟩, hS.F ht⟩) hS.2.2 dX8_adaptive_111

set_option maxHeartbeats 4000000 in
set_option maxRecDepth 100000 in
/-- adaptive(0, x, y), refused -/
theorem c_X8_adaptive_no0 (l : Launch) (dC : Nat → ClassId) (dI : Nat → Nat → Nat) (cI cZ cJ : ClassId) (m0 : Nat) (m1 : Nat) (m2 : Nat) (m3 : Nat) (m4 : Nat) (m5 : Nat) (m6 : Nat) (th : Int32) (tp : Int32) (ty : Int32) (sf : Int32) (rdg : Int32) (rt : Int32) (dx : Int32) (dy : Int32) (p0 : Int32) (q0 : Int32) (p1 : Int32) (q1 : Int32) (kp : Int32) (w : Nat) (h : Nat) (rwd : Nat) (rht : Nat) (k : Nat) (sk : Nat) (tr : Nat) (co : Nat) (b : Nat) (ma : Int64) (mc : Int64) (mt : Int32) (x : Int32) (y : Int32) (hno : sp_pl0 x y = 0) (sz : Nat) : Met l yX8_adaptive wsX8_adaptive ({ frames := 0, cells := 0, slots := 0, locals := 0 }) (hw_Pre (dC, dI) vwCl (ty3 cI cZ cJ) [(m0, .inr (7, [.int th, .ref m1, .int (nI w), .int (nI h), .int tp, .int ty, .ref m2, .ref m3, .int sf, .int rdg, .int rt, .int (nI rwd), .int (nI rht), .ref m4, .int dx, .int dy, .int p0, .int q0, .int p1, .int q1, .int kp, .ref m5, .ref m6, .int (nI k), .int (nI sk), .int (nI tr), .int (nI co), .long ma, .long mc, .int mt, .int (nI b)]))] sz [.ref m0, .int 0, .int x, .int y]) (va_Qv (fun _ : Unit => True) (hw_at (dC, dI) vwCl (ty3 cI cZ cJ) (fun _ : Unit => [(m0, .inr (7, [.int 1, .ref m1, .int (nI w), .int (nI h), .int tp, .int ty, .ref m2, .ref m3, .int sf, .int rdg, .int rt, .int (nI rwd), .int (nI rht), .ref m4, .int dx, .int dy, .int p0, .int q0, .int p1, .int q1, .int kp, .ref m5, .ref m6, .int (nI k), .int (nI sk), .int (nI tr), .int (nI co), .long ma, .long mc, .int mt, .int (nI b)]))]) (va_A [(m0, .inr (7, [.int th, .ref m1, .int (nI w), .int (nI h), .int tp, .int ty, .ref m2, .ref m3, .int sf, .int rdg, .int rt, .int (nI rwd), .int (nI rht), .ref m4, .int dx, .int dy, .int p0, .int q0, .int p1, .int q1, .int kp, .ref m5, .ref m6, .int (nI k), .int (nI sk), .int (nI tr), .int (nI co), .long ma, .long mc, .int mt, .int (nI b)]))] sz)) (va_A [(m0, .inr (7, [.int th, .ref m1, .int (nI w), .int (nI h), .int tp, .int ty, .ref m2, .ref m3, .int sf, .int rdg, .int rt, .int (nI rwd), .int (nI rht), .ref m4, .int dx, .int dy, .int p0, .int q0, .int p1, .int q1, .int kp, .ref m5, .ref m6, .int (nI k), .int (nI sk), .int (nI tr), .int (nI co), .long ma, .long mc, .int mt, .int (nI b)]))] sz)) 0 0 (va_A [(m0, .inr (7, [.int th, .ref m1, .int (nI w), .int (nI h), .int tp, .int ty, .ref m2, .ref m3, .int sf, .int rdg, .int rt, .int (nI rwd), .int (nI rht), .ref m4, .int dx, .int dy, .int p0, .int q0, .int p1, .int q1, .int kp, .ref m5, .ref m6, .int (nI k), .int (nI sk), .int (nI tr), .int (nI co), .long ma, .long mc, .int mt, .int (nI b)]))] sz) := by
  refine Met.ofW (cc := cX8_adaptive) (maxL := 5) (ret := none) (by decide) rfl ?_
  intro pg ev s m args below meth cd s₁ B hml hv
  obtain ⟨rfl, hsz, hP, hK, hN, hZ, hD0⟩ := hv
  have hx := B.exec
  have hb := B.bytes
  have hr := B.returns
  have hts := atoms_spec (ws := wsX8_adaptive) B.pre
  have hown : s.vm.findClass RX8 = some m.cls := findClass_of_methodNamed B.named
  have hlocks := B.notSynchronized
  subst hsz
  have hD := hD0.self (sz := s.heap.size)
  generalize hAe : va_A [(m0, .inr (7, [.int th, .ref m1, .int (nI w), .int (nI h), .int tp, .int ty, .ref m2, .ref m3, .int sf, .int rdg, .int rt, .int (nI rwd), .int (nI rht), .ref m4, .int dx, .int dy, .int p0, .int q0, .int p1, .int q1, .int kp, .ref m5, .ref m6, .int (nI k), .int (nI sk), .int (nI tr), .int (nI co), .long ma, .long mc, .int mt, .int (nI b)]))] s.heap.size = A at hD hZ ⊢
  have hA : ∀ q : Nat, s.heap.size ≤ q → A q := fun q h => by rw [← hAe]; exact Or.inr h
  have hS : va_S A s.heap s.heap [] := va_S.rf
  have hk : hw_K (dC, dI) vwCl (ty3 cI cZ cJ) A s := ⟨hK, hN, hZ⟩
  have hiX8 : ∀ w ∈ u_ws RX8 TX8 31, w ∈ wsX8_adaptive := by decide +kernel
  have hl := lv_entry ([.ref m0, .int 0, .int x, .int y]) (n := 5) (Nat.le_of_ble_eq_true rfl)
  rw [lg_entry_eq]
  generalize (lg_sl ([.ref m0, .int 0, .int x, .int y]) ++ List.replicate (5 - (lg_sl ([.ref m0, .int 0, .int x, .int y])).length) Slot.unset).toArray = ls at hl ⊢
  have hl : lv_has ls 5 [(0, .ref m0), (1, .int 0), (2, .int x), (3, .int y)] := hl
  refine lv_iload_n hx hb dX8_adaptive_0 rfl (lv_at hl 2 rfl) ?_
  refine lv_bipush (v := (-16)) hx hb dX8_adaptive_1 (by decide) ?_
  refine lv_icmp_lt (tgt := 59) hx hb dX8_adaptive_3 (by decide) (fun c_3 => ?_) (fun c_3 => ?_)
  · refine lv_iconst (v := 0) hx hb dX8_adaptive_59 (by decide) ?_
    refine lv_istore (lv' := [(4, .int 0), (0, .ref m0), (1, .int 0), (2, .int x), (3, .int y)]) hx hb dX8_adaptive_60 hl (by decide) rfl (fun ls hl => ?_)
    refine lv_aload_n hx hb dX8_adaptive_62 rfl (lv_at hl 1 rfl) ?_
    refine lv_iload hx hb dX8_adaptive_63 (lv_at hl 0 rfl) ?_
    refine lv_if_eq (tgt := 72) hx hb dX8_adaptive_65 (by decide) (fun _ => ?_) (fun c9 => absurd (by decide) c9)
    refine lv_iconst (v := 1) hx hb dX8_adaptive_72 (by decide) ?_
    refine va_put (D := (dC, dI)) (ci := 7) (v := .int 1) (ty := .int) (C := RX8) (T := TX8) (N := 31) hx hb hts hiX8 tyX8 tyX8_ok nmX8 hown hK hP hD hS 0 rfl rfl 0 (by decide) (hts (.fieldLink RX8 48 "RefineRegionsModel" "thrown" "I") (by decide +kernel)) (fun _ h9 => h9) rfl (by decide +kernel) rfl rfl (Nat.le_of_ble_eq_true rfl) dX8_adaptive_73 (fun H locs hP hD hS => ?_)
    have hP : va_P (dC, dI) vwCl [(m0, .inr (7, [.int 1, .ref m1, .int (nI w), .int (nI h), .int tp, .int ty, .ref m2, .ref m3, .int sf, .int rdg, .int rt, .int (nI rwd), .int (nI rht), .ref m4, .int dx, .int dy, .int p0, .int q0, .int p1, .int q1, .int kp, .ref m5, .ref m6, .int (nI k), .int (nI sk), .int (nI tr), .int (nI co), .long ma, .long mc, .int mt, .int (nI b)]))] H := hP
    have hD : va_D A [(m0, .inr (7, [.int 1, .ref m1, .int (nI w), .int (nI h), .int tp, .int ty, .ref m2, .ref m3, .int sf, .int rdg, .int rt, .int (nI rwd), .int (nI rht), .ref m4, .int dx, .int dy, .int p0, .int q0, .int p1, .int q1, .int kp, .ref m5, .ref m6, .int (nI k), .int (nI sk), .int (nI tr), .int (nI co), .long ma, .long mc, .int mt, .int (nI b)]))] := hD
    refine lv_aload_n hx hb dX8_adaptive_76 rfl (lv_at hl 1 rfl) ?_
    refine va_get (D := (dC, dI)) (ci := 7) (v := .int 1) (C := RX8) (T := TX8) (N := 31) hx hb hts hiX8 hown hK hP 0 rfl rfl 0 (by decide) (hts (.fieldLink RX8 48 "RefineRegionsModel" "thrown" "I") (by decide +kernel)) (fun _ h9 => h9) rfl dX8_adaptive_77 ?_
    refine lv_if_le (tgt := 84) hx hb dX8_adaptive_80 (by decide) (fun c9 => absurd c9 (by decide)) (fun _ => ?_)
    have hP9 := hP
    have hD9 := hD
    exact W.vret hx hb hr (fun t ht hW => ⟨⟨(), rfl, trivial, by rw [ht]; exact hP9, va_K.moved hW.alike hK, hD9⟩, hS.F ht⟩) hS.2.2 dX8_adaptive_83
  · refine lv_iload_n hx hb dX8_adaptive_6 rfl (lv_at hl 3 rfl) ?_
    refine lv_bipush (v := (-16)) hx hb dX8_adaptive_7 (by decide) ?_
    refine lv_icmp_lt (tgt := 59) hx hb dX8_adaptive_9 (by decide) (fun c_9 => ?_) (fun c_9 => ?_)
    · refine lv_iconst (v := 0) hx hb dX8_adaptive_59 (by decide) ?_
      refine lv_istore (lv' := [(4, .int 0), (0, .ref m0), (1, .int 0), (2, .int x), (3, .int y)]) hx hb dX8_adaptive_60 hl (by decide) rfl (fun ls hl => ?_)
      refine lv_aload_n hx hb dX8_adaptive_62 rfl (lv_at hl 1 rfl) ?_
      refine lv_iload hx hb dX8_adaptive_63 (lv_at hl 0 rfl) ?_
      refine lv_if_eq (tgt := 72) hx hb dX8_adaptive_65 (by decide) (fun _ => ?_) (fun c9 => absurd (by decide) c9)
      refine lv_iconst (v := 1) hx hb dX8_adaptive_72 (by decide) ?_
      refine va_put (D := (dC, dI)) (ci := 7) (v := .int 1) (ty := .int) (C := RX8) (T := TX8) (N := 31) hx hb hts hiX8 tyX8 tyX8_ok nmX8 hown hK hP hD hS 0 rfl rfl 0 (by decide) (hts (.fieldLink RX8 48 "RefineRegionsModel" "thrown" "I") (by decide +kernel)) (fun _ h9 => h9) rfl (by decide +kernel) rfl rfl (Nat.le_of_ble_eq_true rfl) dX8_adaptive_73 (fun H locs hP hD hS => ?_)
      have hP : va_P (dC, dI) vwCl [(m0, .inr (7, [.int 1, .ref m1, .int (nI w), .int (nI h), .int tp, .int ty, .ref m2, .ref m3, .int sf, .int rdg, .int rt, .int (nI rwd), .int (nI rht), .ref m4, .int dx, .int dy, .int p0, .int q0, .int p1, .int q1, .int kp, .ref m5, .ref m6, .int (nI k), .int (nI sk), .int (nI tr), .int (nI co), .long ma, .long mc, .int mt, .int (nI b)]))] H := hP
      have hD : va_D A [(m0, .inr (7, [.int 1, .ref m1, .int (nI w), .int (nI h), .int tp, .int ty, .ref m2, .ref m3, .int sf, .int rdg, .int rt, .int (nI rwd), .int (nI rht), .ref m4, .int dx, .int dy, .int p0, .int q0, .int p1, .int q1, .int kp, .ref m5, .ref m6, .int (nI k), .int (nI sk), .int (nI tr), .int (nI co), .long ma, .long mc, .int mt, .int (nI b)]))] := hD
      refine lv_aload_n hx hb dX8_adaptive_76 rfl (lv_at hl 1 rfl) ?_
      refine va_get (D := (dC, dI)) (ci := 7) (v := .int 1) (C := RX8) (T := TX8) (N := 31) hx hb hts hiX8 hown hK hP 0 rfl rfl 0 (by decide) (hts (.fieldLink RX8 48 "RefineRegionsModel" "thrown" "I") (by decide +kernel)) (fun _ h9 => h9) rfl dX8_adaptive_77 ?_
      refine lv_if_le (tgt := 84) hx hb dX8_adaptive_80 (by decide) (fun c9 => absurd c9 (by decide)) (fun _ => ?_)
      have hP9 := hP
      have hD9 := hD
      exact W.vret hx hb hr (fun t ht hW => ⟨⟨(), rfl, trivial, by rw [ht]; exact hP9, va_K.moved hW.alike hK, hD9⟩, hS.F ht⟩) hS.2.2 dX8_adaptive_83
    · refine lv_iload_n hx hb dX8_adaptive_12 rfl (lv_at hl 1 rfl) ?_
      refine lv_if_ne (tgt := 38) hx hb dX8_adaptive_13 (by decide) (fun c9 => absurd c9 (by decide)) (fun _ => ?_)
      refine lv_iload_n hx hb dX8_adaptive_16 rfl (lv_at hl 3 rfl) ?_
      refine lv_if_ge (tgt := 26) hx hb dX8_adaptive_17 (by decide) (fun c_17 => ?_) (fun c_17 => ?_)
      · refine lv_iload_n hx hb dX8_adaptive_26 rfl (lv_at hl 3 rfl) ?_
        refine lv_if_ne (tgt := 59) hx hb dX8_adaptive_27 (by decide) (fun c_27 => ?_) (fun c_27 => ?_)
        · refine lv_iconst (v := 0) hx hb dX8_adaptive_59 (by decide) ?_
          refine lv_istore (lv' := [(4, .int 0), (0, .ref m0), (1, .int 0), (2, .int x), (3, .int y)]) hx hb dX8_adaptive_60 hl (by decide) rfl (fun ls hl => ?_)
          refine lv_aload_n hx hb dX8_adaptive_62 rfl (lv_at hl 1 rfl) ?_
          refine lv_iload hx hb dX8_adaptive_63 (lv_at hl 0 rfl) ?_
          refine lv_if_eq (tgt := 72) hx hb dX8_adaptive_65 (by decide) (fun _ => ?_) (fun c9 => absurd (by decide) c9)
          refine lv_iconst (v := 1) hx hb dX8_adaptive_72 (by decide) ?_
          refine va_put (D := (dC, dI)) (ci := 7) (v := .int 1) (ty := .int) (C := RX8) (T := TX8) (N := 31) hx hb hts hiX8 tyX8 tyX8_ok nmX8 hown hK hP hD hS 0 rfl rfl 0 (by decide) (hts (.fieldLink RX8 48 "RefineRegionsModel" "thrown" "I") (by decide +kernel)) (fun _ h9 => h9) rfl (by decide +kernel) rfl rfl (Nat.le_of_ble_eq_true rfl) dX8_adaptive_73 (fun H locs hP hD hS => ?_)
          have hP : va_P (dC, dI) vwCl [(m0, .inr (7, [.int 1, .ref m1, .int (nI w), .int (nI h), .int tp, .int ty, .ref m2, .ref m3, .int sf, .int rdg, .int rt, .int (nI rwd), .int (nI rht), .ref m4, .int dx, .int dy, .int p0, .int q0, .int p1, .int q1, .int kp, .ref m5, .ref m6, .int (nI k), .int (nI sk), .int (nI tr), .int (nI co), .long ma, .long mc, .int mt, .int (nI b)]))] H := hP
          have hD : va_D A [(m0, .inr (7, [.int 1, .ref m1, .int (nI w), .int (nI h), .int tp, .int ty, .ref m2, .ref m3, .int sf, .int rdg, .int rt, .int (nI rwd), .int (nI rht), .ref m4, .int dx, .int dy, .int p0, .int q0, .int p1, .int q1, .int kp, .ref m5, .ref m6, .int (nI k), .int (nI sk), .int (nI tr), .int (nI co), .long ma, .long mc, .int mt, .int (nI b)]))] := hD
          refine lv_aload_n hx hb dX8_adaptive_76 rfl (lv_at hl 1 rfl) ?_
          refine va_get (D := (dC, dI)) (ci := 7) (v := .int 1) (C := RX8) (T := TX8) (N := 31) hx hb hts hiX8 hown hK hP 0 rfl rfl 0 (by decide) (hts (.fieldLink RX8 48 "RefineRegionsModel" "thrown" "I") (by decide +kernel)) (fun _ h9 => h9) rfl dX8_adaptive_77 ?_
          refine lv_if_le (tgt := 84) hx hb dX8_adaptive_80 (by decide) (fun c9 => absurd c9 (by decide)) (fun _ => ?_)
          have hP9 := hP
          have hD9 := hD
          exact W.vret hx hb hr (fun t ht hW => ⟨⟨(), rfl, trivial, by rw [ht]; exact hP9, va_K.moved hW.alike hK, hD9⟩, hS.F ht⟩) hS.2.2 dX8_adaptive_83
        · refine lv_iload_n hx hb dX8_adaptive_30 rfl (lv_at hl 2 rfl) ?_
          refine lv_iconst (v := (-1)) hx hb dX8_adaptive_31 (by decide) ?_
          refine lv_icmp_gt (tgt := 59) hx hb dX8_adaptive_32 (by decide) (fun c_32 => ?_) (fun c_32 => absurd (Int32.not_le.mp (fun h9 => sp_pl0_iff.mpr ⟨c_3, c_9, Or.inr ⟨c_27, h9⟩⟩ hno)) c_32)
          refine lv_iconst (v := 0) hx hb dX8_adaptive_59 (by decide) ?_
          refine lv_istore (lv' := [(4, .int 0), (0, .ref m0), (1, .int 0), (2, .int x), (3, .int y)]) hx hb dX8_adaptive_60 hl (by decide) rfl (fun ls hl => ?_)
          refine lv_aload_n hx hb dX8_adaptive_62 rfl (lv_at hl 1 rfl) ?_
          refine lv_iload hx hb dX8_adaptive_63 (lv_at hl 0 rfl) ?_
          refine lv_if_eq (tgt := 72) hx hb dX8_adaptive_65 (by decide) (fun _ => ?_) (fun c9 => absurd (by decide) c9)
          refine lv_iconst (v := 1) hx hb dX8_adaptive_72 (by decide) ?_
          refine va_put (D := (dC, dI)) (ci := 7) (v := .int 1) (ty := .int) (C := RX8) (T := TX8) (N := 31) hx hb hts hiX8 tyX8 tyX8_ok nmX8 hown hK hP hD hS 0 rfl rfl 0 (by decide) (hts (.fieldLink RX8 48 "RefineRegionsModel" "thrown" "I") (by decide +kernel)) (fun _ h9 => h9) rfl (by decide +kernel) rfl rfl (Nat.le_of_ble_eq_true rfl) dX8_adaptive_73 (fun H locs hP hD hS => ?_)
          have hP : va_P (dC, dI) vwCl [(m0, .inr (7, [.int 1, .ref m1, .int (nI w), .int (nI h), .int tp, .int ty, .ref m2, .ref m3, .int sf, .int rdg, .int rt, .int (nI rwd), .int (nI rht), .ref m4, .int dx, .int dy, .int p0, .int q0, .int p1, .int q1, .int kp, .ref m5, .ref m6, .int (nI k), .int (nI sk), .int (nI tr), .int (nI co), .long ma, .long mc, .int mt, .int (nI b)]))] H := hP
          have hD : va_D A [(m0, .inr (7, [.int 1, .ref m1, .int (nI w), .int (nI h), .int tp, .int ty, .ref m2, .ref m3, .int sf, .int rdg, .int rt, .int (nI rwd), .int (nI rht), .ref m4, .int dx, .int dy, .int p0, .int q0, .int p1, .int q1, .int kp, .ref m5, .ref m6, .int (nI k), .int (nI sk), .int (nI tr), .int (nI co), .long ma, .long mc, .int mt, .int (nI b)]))] := hD
          refine lv_aload_n hx hb dX8_adaptive_76 rfl (lv_at hl 1 rfl) ?_
          refine va_get (D := (dC, dI)) (ci := 7) (v := .int 1) (C := RX8) (T := TX8) (N := 31) hx hb hts hiX8 hown hK hP 0 rfl rfl 0 (by decide) (hts (.fieldLink RX8 48 "RefineRegionsModel" "thrown" "I") (by decide +kernel)) (fun _ h9 => h9) rfl dX8_adaptive_77 ?_
          refine lv_if_le (tgt := 84) hx hb dX8_adaptive_80 (by decide) (fun c9 => absurd c9 (by decide)) (fun _ => ?_)
          have hP9 := hP
          have hD9 := hD
          exact W.vret hx hb hr (fun t ht hW => ⟨⟨(), rfl, trivial, by rw [ht]; exact hP9, va_K.moved hW.alike hK, hD9⟩, hS.F ht⟩) hS.2.2 dX8_adaptive_83
      · refine lv_iload_n hx hb dX8_adaptive_20 rfl (lv_at hl 2 rfl) ?_
        refine lv_bipush (v := 15) hx hb dX8_adaptive_21 (by decide) ?_
        refine lv_icmp_le (tgt := 55) hx hb dX8_adaptive_23 (by decide) (fun c_23 => absurd c_23 (fun h9 => sp_pl0_iff.mpr ⟨c_3, c_9, Or.inl ⟨Int32.not_le.mp c_17, h9⟩⟩ hno)) (fun c_23 => ?_)
        refine lv_iload_n hx hb dX8_adaptive_26 rfl (lv_at hl 3 rfl) ?_
        refine lv_if_ne (tgt := 59) hx hb dX8_adaptive_27 (by decide) (fun c_27 => ?_) (fun c_27 => ?_)
        · refine lv_iconst (v := 0) hx hb dX8_adaptive_59 (by decide) ?_
          refine lv_istore (lv' := [(4, .int 0), (0, .ref m0), (1, .int 0), (2, .int x), (3, .int y)]) hx hb dX8_adaptive_60 hl (by decide) rfl (fun ls hl => ?_)
          refine lv_aload_n hx hb dX8_adaptive_62 rfl (lv_at hl 1 rfl) ?_
          refine lv_iload hx hb dX8_adaptive_63 (lv_at hl 0 rfl) ?_
          refine lv_if_eq (tgt := 72) hx hb dX8_adaptive_65 (by decide) (fun _ => ?_) (fun c9 => absurd (by decide) c9)
          refine lv_iconst (v := 1) hx hb dX8_adaptive_72 (by decide) ?_
          refine va_put (D := (dC, dI)) (ci := 7) (v := .int 1) (ty := .int) (C := RX8) (T := TX8) (N := 31) hx hb hts hiX8 tyX8 tyX8_ok nmX8 hown hK hP hD hS 0 rfl rfl 0 (by decide) (hts (.fieldLink RX8 48 "RefineRegionsModel" "thrown" "I") (by decide +kernel)) (fun _ h9 => h9) rfl (by decide +kernel) rfl rfl (Nat.le_of_ble_eq_true rfl) dX8_adaptive_73 (fun H locs hP hD hS => ?_)
          have hP : va_P (dC, dI) vwCl [(m0, .inr (7, [.int 1, .ref m1, .int (nI w), .int (nI h), .int tp, .int ty, .ref m2, .ref m3, .int sf, .int rdg, .int rt, .int (nI rwd), .int (nI rht), .ref m4, .int dx, .int dy, .int p0, .int q0, .int p1, .int q1, .int kp, .ref m5, .ref m6, .int (nI k), .int (nI sk), .int (nI tr), .int (nI co), .long ma, .long mc, .int mt, .int (nI b)]))] H := hP
          have hD : va_D A [(m0, .inr (7, [.int 1, .ref m1, .int (nI w), .int (nI h), .int tp, .int ty, .ref m2, .ref m3, .int sf, .int rdg, .int rt, .int (nI rwd), .int (nI rht), .ref m4, .int dx, .int dy, .int p0, .int q0, .int p1, .int q1, .int kp, .ref m5, .ref m6, .int (nI k), .int (nI sk), .int (nI tr), .int (nI co), .long ma, .long mc, .int mt, .int (nI b)]))] := hD
          refine lv_aload_n hx hb dX8_adaptive_76 rfl (lv_at hl 1 rfl) ?_
          refine va_get (D := (dC, dI)) (ci := 7) (v := .int 1) (C := RX8) (T := TX8) (N := 31) hx hb hts hiX8 hown hK hP 0 rfl rfl 0 (by decide) (hts (.fieldLink RX8 48 "RefineRegionsModel" "thrown" "I") (by decide +kernel)) (fun _ h9 => h9) rfl dX8_adaptive_77 ?_
          refine lv_if_le (tgt := 84) hx hb dX8_adaptive_80 (by decide) (fun c9 => absurd c9 (by decide)) (fun _ => ?_)
          have hP9 := hP
          have hD9 := hD
          exact W.vret hx hb hr (fun t ht hW => ⟨⟨(), rfl, trivial, by rw [ht]; exact hP9, va_K.moved hW.alike hK, hD9⟩, hS.F ht⟩) hS.2.2 dX8_adaptive_83
        · refine lv_iload_n hx hb dX8_adaptive_30 rfl (lv_at hl 2 rfl) ?_
          refine lv_iconst (v := (-1)) hx hb dX8_adaptive_31 (by decide) ?_
          refine lv_icmp_gt (tgt := 59) hx hb dX8_adaptive_32 (by decide) (fun c_32 => ?_) (fun c_32 => absurd (Int32.not_le.mp (fun h9 => sp_pl0_iff.mpr ⟨c_3, c_9, Or.inr ⟨c_27, h9⟩⟩ hno)) c_32)
          refine lv_iconst (v := 0) hx hb dX8_adaptive_59 (by decide) ?_
          refine lv_istore (lv' := [(4, .int 0), (0, .ref m0), (1, .int 0), (2, .int x), (3, .int y)]) hx hb dX8_adaptive_60 hl (by decide) rfl (fun ls hl => ?_)
          refine lv_aload_n hx hb dX8_adaptive_62 rfl (lv_at hl 1 rfl) ?_
          refine lv_iload hx hb dX8_adaptive_63 (lv_at hl 0 rfl) ?_
          refine lv_if_eq (tgt := 72) hx hb dX8_adaptive_65 (by decide) (fun _ => ?_) (fun c9 => absurd (by decide) c9)
          refine lv_iconst (v := 1) hx hb dX8_adaptive_72 (by decide) ?_
          refine va_put (D := (dC, dI)) (ci := 7) (v := .int 1) (ty := .int) (C := RX8) (T := TX8) (N := 31) hx hb hts hiX8 tyX8 tyX8_ok nmX8 hown hK hP hD hS 0 rfl rfl 0 (by decide) (hts (.fieldLink RX8 48 "RefineRegionsModel" "thrown" "I") (by decide +kernel)) (fun _ h9 => h9) rfl (by decide +kernel) rfl rfl (Nat.le_of_ble_eq_true rfl) dX8_adaptive_73 (fun H locs hP hD hS => ?_)
          have hP : va_P (dC, dI) vwCl [(m0, .inr (7, [.int 1, .ref m1, .int (nI w), .int (nI h), .int tp, .int ty, .ref m2, .ref m3, .int sf, .int rdg, .int rt, .int (nI rwd), .int (nI rht), .ref m4, .int dx, .int dy, .int p0, .int q0, .int p1, .int q1, .int kp, .ref m5, .ref m6, .int (nI k), .int (nI sk), .int (nI tr), .int (nI co), .long ma, .long mc, .int mt, .int (nI b)]))] H := hP
          have hD : va_D A [(m0, .inr (7, [.int 1, .ref m1, .int (nI w), .int (nI h), .int tp, .int ty, .ref m2, .ref m3, .int sf, .int rdg, .int rt, .int (nI rwd), .int (nI rht), .ref m4, .int dx, .int dy, .int p0, .int q0, .int p1, .int q1, .int kp, .ref m5, .ref m6, .int (nI k), .int (nI sk), .int (nI tr), .int (nI co), .long ma, .long mc, .int mt, .int (nI b)]))] := hD
          refine lv_aload_n hx hb dX8_adaptive_76 rfl (lv_at hl 1 rfl) ?_
          refine va_get (D := (dC, dI)) (ci := 7) (v := .int 1) (C := RX8) (T := TX8) (N := 31) hx hb hts hiX8 hown hK hP 0 rfl rfl 0 (by decide) (hts (.fieldLink RX8 48 "RefineRegionsModel" "thrown" "I") (by decide +kernel)) (fun _ h9 => h9) rfl dX8_adaptive_77 ?_
          refine lv_if_le (tgt := 84) hx hb dX8_adaptive_80 (by decide) (fun c9 => absurd c9 (by decide)) (fun _ => ?_)
          have hP9 := hP
          have hD9 := hD
          exact W.vret hx hb hr (fun t ht hW => ⟨⟨(), rfl, trivial, by rw [ht]; exact hP9, va_K.moved hW.alike hK, hD9⟩, hS.F ht⟩) hS.2.2 dX8_adaptive_83

set_option maxHeartbeats 4000000 in
set_option maxRecDepth 100000 in
/-- adaptive(1, x, y), refused -/
theorem c_X8_adaptive_no1 (l : Launch) (dC : Nat → ClassId) (dI : Nat → Nat → Nat) (cI cZ cJ : ClassId) (m0 : Nat) (m1 : Nat) (m2 : Nat) (m3 : Nat) (m4 : Nat) (m5 : Nat) (m6 : Nat) (th : Int32) (tp : Int32) (ty : Int32) (sf : Int32) (rdg : Int32) (rt : Int32) (dx : Int32) (dy : Int32) (p0 : Int32) (q0 : Int32) (p1 : Int32) (q1 : Int32) (kp : Int32) (w : Nat) (h : Nat) (rwd : Nat) (rht : Nat) (k : Nat) (sk : Nat) (tr : Nat) (co : Nat) (b : Nat) (ma : Int64) (mc : Int64) (mt : Int32) (x : Int32) (y : Int32) (hno : sp_pl1 x y = 0) (sz : Nat) : Met l yX8_adaptive wsX8_adaptive ({ frames := 0, cells := 0, slots := 0, locals := 0 }) (hw_Pre (dC, dI) vwCl (ty3 cI cZ cJ) [(m0, .inr (7, [.int th, .ref m1, .int (nI w), .int (nI h), .int tp, .int ty, .ref m2, .ref m3, .int sf, .int rdg, .int rt, .int (nI rwd), .int (nI rht), .ref m4, .int dx, .int dy, .int p0, .int q0, .int p1, .int q1, .int kp, .ref m5, .ref m6, .int (nI k), .int (nI sk), .int (nI tr), .int (nI co), .long ma, .long mc, .int mt, .int (nI b)]))] sz [.ref m0, .int 1, .int x, .int y]) (va_Qv (fun _ : Unit => True) (hw_at (dC, dI) vwCl (ty3 cI cZ cJ) (fun _ : Unit => [(m0, .inr (7, [.int 1, .ref m1, .int (nI w), .int (nI h), .int tp, .int ty, .ref m2, .ref m3, .int sf, .int rdg, .int rt, .int (nI rwd), .int (nI rht), .ref m4, .int dx, .int dy, .int p0, .int q0, .int p1, .int q1, .int kp, .ref m5, .ref m6, .int (nI k), .int (nI sk), .int (nI tr), .int (nI co), .long ma, .long mc, .int mt, .int (nI b)]))]) (va_A [(m0, .inr (7, [.int th, .ref m1, .int (nI w), .int (nI h), .int tp, .int ty, .ref m2, .ref m3, .int sf, .int rdg, .int rt, .int (nI rwd), .int (nI rht), .ref m4, .int dx, .int dy, .int p0, .int q0, .int p1, .int q1, .int kp, .ref m5, .ref m6, .int (nI k), .int (nI sk), .int (nI tr), .int (nI co), .long ma, .long mc, .int mt, .int (nI b)]))] sz)) (va_A [(m0, .inr (7, [.int th, .ref m1, .int (nI w), .int (nI h), .int tp, .int ty, .ref m2, .ref m3, .int sf, .int rdg, .int rt, .int (nI rwd), .int (nI rht), .ref m4, .int dx, .int dy, .int p0, .int q0, .int p1, .int q1, .int kp, .ref m5, .ref m6, .int (nI k), .int (nI sk), .int (nI tr), .int (nI co), .long ma, .long mc, .int mt, .int (nI b)]))] sz)) 0 0 (va_A [(m0, .inr (7, [.int th, .ref m1, .int (nI w), .int (nI h), .int tp, .int ty, .ref m2, .ref m3, .int sf, .int rdg, .int rt, .int (nI rwd), .int (nI rht), .ref m4, .int dx, .int dy, .int p0, .int q0, .int p1, .int q1, .int kp, .ref m5, .ref m6, .int (nI k), .int (nI sk), .int (nI tr), .int (nI co), .long ma, .long mc, .int mt, .int (nI b)]))] sz) := by
  refine Met.ofW (cc := cX8_adaptive) (maxL := 5) (ret := none) (by decide) rfl ?_
  intro pg ev s m args below meth cd s₁ B hml hv
  obtain ⟨rfl, hsz, hP, hK, hN, hZ, hD0⟩ := hv
  have hx := B.exec
  have hb := B.bytes
  have hr := B.returns
  have hts := atoms_spec (ws := wsX8_adaptive) B.pre
  have hown : s.vm.findClass RX8 = some m.cls := findClass_of_methodNamed B.named
  have hlocks := B.notSynchronized
  subst hsz
  have hD := hD0.self (sz := s.heap.size)
  generalize hAe : va_A [(m0, .inr (7, [.int th, .ref m1, .int (nI w), .int (nI h), .int tp, .int ty, .ref m2, .ref m3, .int sf, .int rdg, .int rt, .int (nI rwd), .int (nI rht), .ref m4, .int dx, .int dy, .int p0, .int q0, .int p1, .int q1, .int kp, .ref m5, .ref m6, .int (nI k), .int (nI sk), .int (nI tr), .int (nI co), .long ma, .long mc, .int mt, .int (nI b)]))] s.heap.size = A at hD hZ ⊢
  have hA : ∀ q : Nat, s.heap.size ≤ q → A q := fun q h => by rw [← hAe]; exact Or.inr h
  have hS : va_S A s.heap s.heap [] := va_S.rf
  have hk : hw_K (dC, dI) vwCl (ty3 cI cZ cJ) A s := ⟨hK, hN, hZ⟩
  have hiX8 : ∀ w ∈ u_ws RX8 TX8 31, w ∈ wsX8_adaptive := by decide +kernel
  have hl := lv_entry ([.ref m0, .int 1, .int x, .int y]) (n := 5) (Nat.le_of_ble_eq_true rfl)
  rw [lg_entry_eq]
  generalize (lg_sl ([.ref m0, .int 1, .int x, .int y]) ++ List.replicate (5 - (lg_sl ([.ref m0, .int 1, .int x, .int y])).length) Slot.unset).toArray = ls at hl ⊢
  have hl : lv_has ls 5 [(0, .ref m0), (1, .int 1), (2, .int x), (3, .int y)] := hl
  refine lv_iload_n hx hb dX8_adaptive_0 rfl (lv_at hl 2 rfl) ?_
  refine lv_bipush (v := (-16)) hx hb dX8_adaptive_1 (by decide) ?_
  refine lv_icmp_lt (tgt := 59) hx hb dX8_adaptive_3 (by decide) (fun c_3 => ?_) (fun c_3 => ?_)
  · refine lv_iconst (v := 0) hx hb dX8_adaptive_59 (by decide) ?_
    refine lv_istore (lv' := [(4, .int 0), (0, .ref m0), (1, .int 1), (2, .int x), (3, .int y)]) hx hb dX8_adaptive_60 hl (by decide) rfl (fun ls hl => ?_)
    refine lv_aload_n hx hb dX8_adaptive_62 rfl (lv_at hl 1 rfl) ?_
    refine lv_iload hx hb dX8_adaptive_63 (lv_at hl 0 rfl) ?_
    refine lv_if_eq (tgt := 72) hx hb dX8_adaptive_65 (by decide) (fun _ => ?_) (fun c9 => absurd (by decide) c9)
    refine lv_iconst (v := 1) hx hb dX8_adaptive_72 (by decide) ?_
    refine va_put (D := (dC, dI)) (ci := 7) (v := .int 1) (ty := .int) (C := RX8) (T := TX8) (N := 31) hx hb hts hiX8 tyX8 tyX8_ok nmX8 hown hK hP hD hS 0 rfl rfl 0 (by decide) (hts (.fieldLink RX8 48 "RefineRegionsModel" "thrown" "I") (by decide +kernel)) (fun _ h9 => h9) rfl (by decide +kernel) rfl rfl (Nat.le_of_ble_eq_true rfl) dX8_adaptive_73 (fun H locs hP hD hS => ?_)
    have hP : va_P (dC, dI) vwCl [(m0, .inr (7, [.int 1, .ref m1, .int (nI w), .int (nI h), .int tp, .int ty, .ref m2, .ref m3, .int sf, .int rdg, .int rt, .int (nI rwd), .int (nI rht), .ref m4, .int dx, .int dy, .int p0, .int q0, .int p1, .int q1, .int kp, .ref m5, .ref m6, .int (nI k), .int (nI sk), .int (nI tr), .int (nI co), .long ma, .long mc, .int mt, .int (nI b)]))] H := hP
    have hD : va_D A [(m0, .inr (7, [.int 1, .ref m1, .int (nI w), .int (nI h), .int tp, .int ty, .ref m2, .ref m3, .int sf, .int rdg, .int rt, .int (nI rwd), .int (nI rht), .ref m4, .int dx, .int dy, .int p0, .int q0, .int p1, .int q1, .int kp, .ref m5, .ref m6, .int (nI k), .int (nI sk), .int (nI tr), .int (nI co), .long ma, .long mc, .int mt, .int (nI b)]))] := hD
    refine lv_aload_n hx hb dX8_adaptive_76 rfl (lv_at hl 1 rfl) ?_
    refine va_get (D := (dC, dI)) (ci := 7) (v := .int 1) (C := RX8) (T := TX8) (N := 31) hx hb hts hiX8 hown hK hP 0 rfl rfl 0 (by decide) (hts (.fieldLink RX8 48 "RefineRegionsModel" "thrown" "I") (by decide +kernel)) (fun _ h9 => h9) rfl dX8_adaptive_77 ?_
    refine lv_if_le (tgt := 84) hx hb dX8_adaptive_80 (by decide) (fun c9 => absurd c9 (by decide)) (fun _ => ?_)
    have hP9 := hP
    have hD9 := hD
    exact W.vret hx hb hr (fun t ht hW => ⟨⟨(), rfl, trivial, by rw [ht]; exact hP9, va_K.moved hW.alike hK, hD9⟩, hS.F ht⟩) hS.2.2 dX8_adaptive_83
  · refine lv_iload_n hx hb dX8_adaptive_6 rfl (lv_at hl 3 rfl) ?_
    refine lv_bipush (v := (-16)) hx hb dX8_adaptive_7 (by decide) ?_
    refine lv_icmp_lt (tgt := 59) hx hb dX8_adaptive_9 (by decide) (fun c_9 => ?_) (fun c_9 => ?_)
    · refine lv_iconst (v := 0) hx hb dX8_adaptive_59 (by decide) ?_
      refine lv_istore (lv' := [(4, .int 0), (0, .ref m0), (1, .int 1), (2, .int x), (3, .int y)]) hx hb dX8_adaptive_60 hl (by decide) rfl (fun ls hl => ?_)
      refine lv_aload_n hx hb dX8_adaptive_62 rfl (lv_at hl 1 rfl) ?_
      refine lv_iload hx hb dX8_adaptive_63 (lv_at hl 0 rfl) ?_
      refine lv_if_eq (tgt := 72) hx hb dX8_adaptive_65 (by decide) (fun _ => ?_) (fun c9 => absurd (by decide) c9)
      refine lv_iconst (v := 1) hx hb dX8_adaptive_72 (by decide) ?_
      refine va_put (D := (dC, dI)) (ci := 7) (v := .int 1) (ty := .int) (C := RX8) (T := TX8) (N := 31) hx hb hts hiX8 tyX8 tyX8_ok nmX8 hown hK hP hD hS 0 rfl rfl 0 (by decide) (hts (.fieldLink RX8 48 "RefineRegionsModel" "thrown" "I") (by decide +kernel)) (fun _ h9 => h9) rfl (by decide +kernel) rfl rfl (Nat.le_of_ble_eq_true rfl) dX8_adaptive_73 (fun H locs hP hD hS => ?_)
      have hP : va_P (dC, dI) vwCl [(m0, .inr (7, [.int 1, .ref m1, .int (nI w), .int (nI h), .int tp, .int ty, .ref m2, .ref m3, .int sf, .int rdg, .int rt, .int (nI rwd), .int (nI rht), .ref m4, .int dx, .int dy, .int p0, .int q0, .int p1, .int q1, .int kp, .ref m5, .ref m6, .int (nI k), .int (nI sk), .int (nI tr), .int (nI co), .long ma, .long mc, .int mt, .int (nI b)]))] H := hP
      have hD : va_D A [(m0, .inr (7, [.int 1, .ref m1, .int (nI w), .int (nI h), .int tp, .int ty, .ref m2, .ref m3, .int sf, .int rdg, .int rt, .int (nI rwd), .int (nI rht), .ref m4, .int dx, .int dy, .int p0, .int q0, .int p1, .int q1, .int kp, .ref m5, .ref m6, .int (nI k), .int (nI sk), .int (nI tr), .int (nI co), .long ma, .long mc, .int mt, .int (nI b)]))] := hD
      refine lv_aload_n hx hb dX8_adaptive_76 rfl (lv_at hl 1 rfl) ?_
      refine va_get (D := (dC, dI)) (ci := 7) (v := .int 1) (C := RX8) (T := TX8) (N := 31) hx hb hts hiX8 hown hK hP 0 rfl rfl 0 (by decide) (hts (.fieldLink RX8 48 "RefineRegionsModel" "thrown" "I") (by decide +kernel)) (fun _ h9 => h9) rfl dX8_adaptive_77 ?_
      refine lv_if_le (tgt := 84) hx hb dX8_adaptive_80 (by decide) (fun c9 => absurd c9 (by decide)) (fun _ => ?_)
      have hP9 := hP
      have hD9 := hD
      exact W.vret hx hb hr (fun t ht hW => ⟨⟨(), rfl, trivial, by rw [ht]; exact hP9, va_K.moved hW.alike hK, hD9⟩, hS.F ht⟩) hS.2.2 dX8_adaptive_83
    · refine lv_iload_n hx hb dX8_adaptive_12 rfl (lv_at hl 1 rfl) ?_
      refine lv_if_ne (tgt := 38) hx hb dX8_adaptive_13 (by decide) (fun _ => ?_) (fun c9 => absurd c9 (by decide))
      refine lv_iload_n hx hb dX8_adaptive_38 rfl (lv_at hl 1 rfl) ?_
      refine lv_iconst (v := 1) hx hb dX8_adaptive_39 (by decide) ?_
      refine lv_icmp_ne (tgt := 59) hx hb dX8_adaptive_40 (by decide) (fun c9 => absurd c9 (by decide)) (fun _ => ?_)
      refine lv_iload_n hx hb dX8_adaptive_43 rfl (lv_at hl 2 rfl) ?_
      refine lv_bipush (v := 15) hx hb dX8_adaptive_44 (by decide) ?_
      refine lv_icmp_gt (tgt := 59) hx hb dX8_adaptive_46 (by decide) (fun c_46 => ?_) (fun c_46 => ?_)
      · refine lv_iconst (v := 0) hx hb dX8_adaptive_59 (by decide) ?_
        refine lv_istore (lv' := [(4, .int 0), (0, .ref m0), (1, .int 1), (2, .int x), (3, .int y)]) hx hb dX8_adaptive_60 hl (by decide) rfl (fun ls hl => ?_)
        refine lv_aload_n hx hb dX8_adaptive_62 rfl (lv_at hl 1 rfl) ?_
        refine lv_iload hx hb dX8_adaptive_63 (lv_at hl 0 rfl) ?_
        refine lv_if_eq (tgt := 72) hx hb dX8_adaptive_65 (by decide) (fun _ => ?_) (fun c9 => absurd (by decide) c9)
        refine lv_iconst (v := 1) hx hb dX8_adaptive_72 (by decide) ?_
        refine va_put (D := (dC, dI)) (ci := 7) (v := .int 1) (ty := .int) (C := RX8) (T := TX8) (N := 31) hx hb hts hiX8 tyX8 tyX8_ok nmX8 hown hK hP hD hS 0 rfl rfl 0 (by decide) (hts (.fieldLink RX8 48 "RefineRegionsModel" "thrown" "I") (by decide +kernel)) (fun _ h9 => h9) rfl (by decide +kernel) rfl rfl (Nat.le_of_ble_eq_true rfl) dX8_adaptive_73 (fun H locs hP hD hS => ?_)
        have hP : va_P (dC, dI) vwCl [(m0, .inr (7, [.int 1, .ref m1, .int (nI w), .int (nI h), .int tp, .int ty, .ref m2, .ref m3, .int sf, .int rdg, .int rt, .int (nI rwd), .int (nI rht), .ref m4, .int dx, .int dy, .int p0, .int q0, .int p1, .int q1, .int kp, .ref m5, .ref m6, .int (nI k), .int (nI sk), .int (nI tr), .int (nI co), .long ma, .long mc, .int mt, .int (nI b)]))] H := hP
        have hD : va_D A [(m0, .inr (7, [.int 1, .ref m1, .int (nI w), .int (nI h), .int tp, .int ty, .ref m2, .ref m3, .int sf, .int rdg, .int rt, .int (nI rwd), .int (nI rht), .ref m4, .int dx, .int dy, .int p0, .int q0, .int p1, .int q1, .int kp, .ref m5, .ref m6, .int (nI k), .int (nI sk), .int (nI tr), .int (nI co), .long ma, .long mc, .int mt, .int (nI b)]))] := hD
        refine lv_aload_n hx hb dX8_adaptive_76 rfl (lv_at hl 1 rfl) ?_
        refine va_get (D := (dC, dI)) (ci := 7) (v := .int 1) (C := RX8) (T := TX8) (N := 31) hx hb hts hiX8 hown hK hP 0 rfl rfl 0 (by decide) (hts (.fieldLink RX8 48 "RefineRegionsModel" "thrown" "I") (by decide +kernel)) (fun _ h9 => h9) rfl dX8_adaptive_77 ?_
        refine lv_if_le (tgt := 84) hx hb dX8_adaptive_80 (by decide) (fun c9 => absurd c9 (by decide)) (fun _ => ?_)
        have hP9 := hP
        have hD9 := hD
        exact W.vret hx hb hr (fun t ht hW => ⟨⟨(), rfl, trivial, by rw [ht]; exact hP9, va_K.moved hW.alike hK, hD9⟩, hS.F ht⟩) hS.2.2 dX8_adaptive_83
      · refine lv_iload_n hx hb dX8_adaptive_49 rfl (lv_at hl 3 rfl) ?_
        refine lv_bipush (v := 15) hx hb dX8_adaptive_50 (by decide) ?_
        refine lv_icmp_gt (tgt := 59) hx hb dX8_adaptive_52 (by decide) (fun c_52 => ?_) (fun c_52 => absurd (Int32.not_le.mp (fun h9 => sp_pl1_iff.mpr ⟨c_3, c_9, Int32.not_lt.mp c_46, h9⟩ hno)) c_52)
        refine lv_iconst (v := 0) hx hb dX8_adaptive_59 (by decide) ?_
        refine lv_istore (lv' := [(4, .int 0), (0, .ref m0), (1, .int 1), (2, .int x), (3, .int y)]) hx hb dX8_adaptive_60 hl (by decide) rfl (fun ls hl => ?_)
        refine lv_aload_n hx hb dX8_adaptive_62 rfl (lv_at hl 1 rfl) ?_
        refine lv_iload hx hb dX8_adaptive_63 (lv_at hl 0 rfl) ?_
        refine lv_if_eq (tgt := 72) hx hb dX8_adaptive_65 (by decide) (fun _ => ?_) (fun c9 => absurd (by decide) c9)
        refine lv_iconst (v := 1) hx hb dX8_adaptive_72 (by decide) ?_
        refine va_put (D := (dC, dI)) (ci := 7) (v := .int 1) (ty := .int) (C := RX8) (T := TX8) (N := 31) hx hb hts hiX8 tyX8 tyX8_ok nmX8 hown hK hP hD hS 0 rfl rfl 0 (by decide) (hts (.fieldLink RX8 48 "RefineRegionsModel" "thrown" "I") (by decide +kernel)) (fun _ h9 => h9) rfl (by decide +kernel) rfl rfl (Nat.le_of_ble_eq_true rfl) dX8_adaptive_73 (fun H locs hP hD hS => ?_)
        have hP : va_P (dC, dI) vwCl [(m0, .inr (7, [.int 1, .ref m1, .int (nI w), .int (nI h), .int tp, .int ty, .ref m2, .ref m3, .int sf, .int rdg, .int rt, .int (nI rwd), .int (nI rht), .ref m4, .int dx, .int dy, .int p0, .int q0, .int p1, .int q1, .int kp, .ref m5, .ref m6, .int (nI k), .int (nI sk), .int (nI tr), .int (nI co), .long ma, .long mc, .int mt, .int (nI b)]))] H := hP
        have hD : va_D A [(m0, .inr (7, [.int 1, .ref m1, .int (nI w), .int (nI h), .int tp, .int ty, .ref m2, .ref m3, .int sf, .int rdg, .int rt, .int (nI rwd), .int (nI rht), .ref m4, .int dx, .int dy, .int p0, .int q0, .int p1, .int q1, .int kp, .ref m5, .ref m6, .int (nI k), .int (nI sk), .int (nI tr), .int (nI co), .long ma, .long mc, .int mt, .int (nI b)]))] := hD
        refine lv_aload_n hx hb dX8_adaptive_76 rfl (lv_at hl 1 rfl) ?_
        refine va_get (D := (dC, dI)) (ci := 7) (v := .int 1) (C := RX8) (T := TX8) (N := 31) hx hb hts hiX8 hown hK hP 0 rfl rfl 0 (by decide) (hts (.fieldLink RX8 48 "RefineRegionsModel" "thrown" "I") (by decide +kernel)) (fun _ h9 => h9) rfl dX8_adaptive_77 ?_
        refine lv_if_le (tgt := 84) hx hb dX8_adaptive_80 (by decide) (fun c9 => absurd c9 (by decide)) (fun _ => ?_)
        have hP9 := hP
        have hD9 := hD
        exact W.vret hx hb hr (fun t ht hW => ⟨⟨(), rfl, trivial, by rw [ht]; exact hP9, va_K.moved hW.alike hK, hD9⟩, hS.F ht⟩) hS.2.2 dX8_adaptive_83

set_option maxHeartbeats 4000000 in
set_option maxRecDepth 100000 in
/-- adaptive(z, x, y), no such place -/
theorem c_X8_adaptive_nox (l : Launch) (dC : Nat → ClassId) (dI : Nat → Nat → Nat) (cI cZ cJ : ClassId) (m0 : Nat) (m1 : Nat) (m2 : Nat) (m3 : Nat) (m4 : Nat) (m5 : Nat) (m6 : Nat) (th : Int32) (tp : Int32) (ty : Int32) (sf : Int32) (rdg : Int32) (rt : Int32) (dx : Int32) (dy : Int32) (p0 : Int32) (q0 : Int32) (p1 : Int32) (q1 : Int32) (kp : Int32) (w : Nat) (h : Nat) (rwd : Nat) (rht : Nat) (k : Nat) (sk : Nat) (tr : Nat) (co : Nat) (b : Nat) (ma : Int64) (mc : Int64) (mt : Int32) (z : Int32) (x : Int32) (y : Int32) (hz0 : ¬ z = 0) (hz1 : ¬ z = 1) (sz : Nat) : Met l yX8_adaptive wsX8_adaptive ({ frames := 0, cells := 0, slots := 0, locals := 0 }) (hw_Pre (dC, dI) vwCl (ty3 cI cZ cJ) [(m0, .inr (7, [.int th, .ref m1, .int (nI w), .int (nI h), .int tp, .int ty, .ref m2, .ref m3, .int sf, .int rdg, .int rt, .int (nI rwd), .int (nI rht), .ref m4, .int dx, .int dy, .int p0, .int q0, .int p1, .int q1, .int kp, .ref m5, .ref m6, .int (nI k), .int (nI sk), .int (nI tr), .int (nI co), .long ma, .long mc, .int mt, .int (nI b)]))] sz [.ref m0, .int z, .int x, .int y]) (va_Qv (fun _ : Unit => True) (hw_at (dC, dI) vwCl (ty3 cI cZ cJ) (fun _ : Unit => [(m0, .inr (7, [.int 1, .ref m1, .int (nI w), .int (nI h), .int tp, .int ty, .ref m2, .ref m3, .int sf, .int rdg, .int rt, .int (nI rwd), .int (nI rht), .ref m4, .int dx, .int dy, .int p0, .int q0, .int p1, .int q1, .int kp, .ref m5, .ref m6, .int (nI k), .int (nI sk), .int (nI tr), .int (nI co), .long ma, .long mc, .int mt, .int (nI b)]))]) (va_A [(m0, .inr (7, [.int th, .ref m1, .int (nI w), .int (nI h), .int tp, .int ty, .ref m2, .ref m3, .int sf, .int rdg, .int rt, .int (nI rwd), .int (nI rht), .ref m4, .int dx, .int dy, .int p0, .int q0, .int p1, .int q1, .int kp, .ref m5, .ref m6, .int (nI k), .int (nI sk), .int (nI tr), .int (nI co), .long ma, .long mc, .int mt, .int (nI b)]))] sz)) (va_A [(m0, .inr (7, [.int th, .ref m1, .int (nI w), .int (nI h), .int tp, .int ty, .ref m2, .ref m3, .int sf, .int rdg, .int rt, .int (nI rwd), .int (nI rht), .ref m4, .int dx, .int dy, .int p0, .int q0, .int p1, .int q1, .int kp, .ref m5, .ref m6, .int (nI k), .int (nI sk), .int (nI tr), .int (nI co), .long ma, .long mc, .int mt, .int (nI b)]))] sz)) 0 0 (va_A [(m0, .inr (7, [.int th, .ref m1, .int (nI w), .int (nI h), .int tp, .int ty, .ref m2, .ref m3, .int sf, .int rdg, .int rt, .int (nI rwd), .int (nI rht), .ref m4, .int dx, .int dy, .int p0, .int q0, .int p1, .int q1, .int kp, .ref m5, .ref m6, .int (nI k), .int (nI sk), .int (nI tr), .int (nI co), .long ma, .long mc, .int mt, .int (nI b)]))] sz) := by
  refine Met.ofW (cc := cX8_adaptive) (maxL := 5) (ret := none) (by decide) rfl ?_
  intro pg ev s m args below meth cd s₁ B hml hv
  obtain ⟨rfl, hsz, hP, hK, hN, hZ, hD0⟩ := hv
  have hx := B.exec
  have hb := B.bytes
  have hr := B.returns
  have hts := atoms_spec (ws := wsX8_adaptive) B.pre
  have hown : s.vm.findClass RX8 = some m.cls := findClass_of_methodNamed B.named
  have hlocks := B.notSynchronized
  subst hsz
  have hD := hD0.self (sz := s.heap.size)
  generalize hAe : va_A [(m0, .inr (7, [.int th, .ref m1, .int (nI w), .int (nI h), .int tp, .int ty, .ref m2, .ref m3, .int sf, .int rdg, .int rt, .int (nI rwd), .int (nI rht), .ref m4, .int dx, .int dy, .int p0, .int q0, .int p1, .int q1, .int kp, .ref m5, .ref m6, .int (nI k), .int (nI sk), .int (nI tr), .int (nI co), .long ma, .long mc, .int mt, .int (nI b)]))] s.heap.size = A at hD hZ ⊢
  have hA : ∀ q : Nat, s.heap.size ≤ q → A q := fun q h => by rw [← hAe]; exact Or.inr h
  have hS : va_S A s.heap s.heap [] := va_S.rf
  have hk : hw_K (dC, dI) vwCl (ty3 cI cZ cJ) A s := ⟨hK, hN, hZ⟩
  have hiX8 : ∀ w ∈ u_ws RX8 TX8 31, w ∈ wsX8_adaptive := by decide +kernel
  have hl := lv_entry ([.ref m0, .int z, .int x, .int y]) (n := 5) (Nat.le_of_ble_eq_true rfl)
  rw [lg_entry_eq]
  generalize (lg_sl ([.ref m0, .int z, .int x, .int y]) ++ List.replicate (5 - (lg_sl ([.ref m0, .int z, .int x, .int y])).length) Slot.unset).toArray = ls at hl ⊢
  have hl : lv_has ls 5 [(0, .ref m0), (1, .int z), (2, .int x), (3, .int y)] := hl
  refine lv_iload_n hx hb dX8_adaptive_0 rfl (lv_at hl 2 rfl) ?_
  refine lv_bipush (v := (-16)) hx hb dX8_adaptive_1 (by decide) ?_
  refine lv_icmp_lt (tgt := 59) hx hb dX8_adaptive_3 (by decide) (fun c_3 => ?_) (fun c_3 => ?_)
  · refine lv_iconst (v := 0) hx hb dX8_adaptive_59 (by decide) ?_
    refine lv_istore (lv' := [(4, .int 0), (0, .ref m0), (1, .int z), (2, .int x), (3, .int y)]) hx hb dX8_adaptive_60 hl (by decide) rfl (fun ls hl => ?_)
    refine lv_aload_n hx hb dX8_adaptive_62 rfl (lv_at hl 1 rfl) ?_
    refine lv_iload hx hb dX8_adaptive_63 (lv_at hl 0 rfl) ?_
    refine lv_if_eq (tgt := 72) hx hb dX8_adaptive_65 (by decide) (fun _ => ?_) (fun c9 => absurd (by decide) c9)
    refine lv_iconst (v := 1) hx hb dX8_adaptive_72 (by decide) ?_
    refine va_put (D := (dC, dI)) (ci := 7) (v := .int 1) (ty := .int) (C := RX8) (T := TX8) (N := 31) hx hb hts hiX8 tyX8 tyX8_ok nmX8 hown hK hP hD hS 0 rfl rfl 0 (by decide) (hts (.fieldLink RX8 48 "RefineRegionsModel" "thrown" "I") (by decide +kernel)) (fun _ h9 => h9) rfl (by decide +kernel) rfl rfl (Nat.le_of_ble_eq_true rfl) dX8_adaptive_73 (fun H locs hP hD hS => ?_)
    have hP : va_P (dC, dI) vwCl [(m0, .inr (7, [.int 1, .ref m1, .int (nI w), .int (nI h), .int tp, .int ty, .ref m2, .ref m3, .int sf, .int rdg, .int rt, .int (nI rwd), .int (nI rht), .ref m4, .int dx, .int dy, .int p0, .int q0, .int p1, .int q1, .int kp, .ref m5, .ref m6, .int (nI k), .int (nI sk), .int (nI tr), .int (nI co), .long ma, .long mc, .int mt, .int (nI b)]))] H := hP
    have hD : va_D A [(m0, .inr (7, [.int 1, .ref m1, .int (nI w), .int (nI h), .int tp, .int ty, .ref m2, .ref m3, .int sf, .int rdg, .int rt, .int (nI rwd), .int (nI rht), .ref m4, .int dx, .int dy, .int p0, .int q0, .int p1, .int q1, .int kp, .ref m5, .ref m6, .int (nI k), .int (nI sk), .int (nI tr), .int (nI co), .long ma, .long mc, .int mt, .int (nI b)]))] := hD
    refine lv_aload_n hx hb dX8_adaptive_76 rfl (lv_at hl 1 rfl) ?_
    refine va_get (D := (dC, dI)) (ci := 7) (v := .int 1) (C := RX8) (T := TX8) (N := 31) hx hb hts hiX8 hown hK hP 0 rfl rfl 0 (by decide) (hts (.fieldLink RX8 48 "RefineRegionsModel" "thrown" "I") (by decide +kernel)) (fun _ h9 => h9) rfl dX8_adaptive_77 ?_
    refine lv_if_le (tgt := 84) hx hb dX8_adaptive_80 (by decide) (fun c9 => absurd c9 (by decide)) (fun _ => ?_)
    have hP9 := hP
    have hD9 := hD
    exact W.vret hx hb hr (fun t ht hW => ⟨⟨(), rfl, trivial, by rw [ht]; exact hP9, va_K.moved hW.alike hK, hD9⟩, hS.F ht⟩) hS.2.2 dX8_adaptive_83
  · refine lv_iload_n hx hb dX8_adaptive_6 rfl (lv_at hl 3 rfl) ?_
    refine lv_bipush (v := (-16)) hx hb dX8_adaptive_7 (by decide) ?_
    refine lv_icmp_lt (tgt := 59) hx hb dX8_adaptive_9 (by decide) (fun c_9 => ?_) (fun c_9 => ?_)
    · refine lv_iconst (v := 0) hx hb dX8_adaptive_59 (by decide) ?_
      refine lv_istore (lv' := [(4, .int 0), (0, .ref m0), (1, .int z), (2, .int x), (3, .int y)]) hx hb dX8_adaptive_60 hl (by decide) rfl (fun ls hl => ?_)
      refine lv_aload_n hx hb dX8_adaptive_62 rfl (lv_at hl 1 rfl) ?_
      refine lv_iload hx hb dX8_adaptive_63 (lv_at hl 0 rfl) ?_
      refine lv_if_eq (tgt := 72) hx hb dX8_adaptive_65 (by decide) (fun _ => ?_) (fun c9 => absurd (by decide) c9)
      refine lv_iconst (v := 1) hx hb dX8_adaptive_72 (by decide) ?_
      refine va_put (D := (dC, dI)) (ci := 7) (v := .int 1) (ty := .int) (C := RX8) (T := TX8) (N := 31) hx hb hts hiX8 tyX8 tyX8_ok nmX8 hown hK hP hD hS 0 rfl rfl 0 (by decide) (hts (.fieldLink RX8 48 "RefineRegionsModel" "thrown" "I") (by decide +kernel)) (fun _ h9 => h9) rfl (by decide +kernel) rfl rfl (Nat.le_of_ble_eq_true rfl) dX8_adaptive_73 (fun H locs hP hD hS => ?_)
      have hP : va_P (dC, dI) vwCl [(m0, .inr (7, [.int 1, .ref m1, .int (nI w), .int (nI h), .int tp, .int ty, .ref m2, .ref m3, .int sf, .int rdg, .int rt, .int (nI rwd), .int (nI rht), .ref m4, .int dx, .int dy, .int p0, .int q0, .int p1, .int q1, .int kp, .ref m5, .ref m6, .int (nI k), .int (nI sk), .int (nI tr), .int (nI co), .long ma, .long mc, .int mt, .int (nI b)]))] H := hP
      have hD : va_D A [(m0, .inr (7, [.int 1, .ref m1, .int (nI w), .int (nI h), .int tp, .int ty, .ref m2, .ref m3, .int sf, .int rdg, .int rt, .int (nI rwd), .int (nI rht), .ref m4, .int dx, .int dy, .int p0, .int q0, .int p1, .int q1, .int kp, .ref m5, .ref m6, .int (nI k), .int (nI sk), .int (nI tr), .int (nI co), .long ma, .long mc, .int mt, .int (nI b)]))] := hD
      refine lv_aload_n hx hb dX8_adaptive_76 rfl (lv_at hl 1 rfl) ?_
      refine va_get (D := (dC, dI)) (ci := 7) (v := .int 1) (C := RX8) (T := TX8) (N := 31) hx hb hts hiX8 hown hK hP 0 rfl rfl 0 (by decide) (hts (.fieldLink RX8 48 "RefineRegionsModel" "thrown" "I") (by decide +kernel)) (fun _ h9 => h9) rfl dX8_adaptive_77 ?_
      refine lv_if_le (tgt := 84) hx hb dX8_adaptive_80 (by decide) (fun c9 => absurd c9 (by decide)) (fun _ => ?_)
      have hP9 := hP
      have hD9 := hD
      exact W.vret hx hb hr (fun t ht hW => ⟨⟨(), rfl, trivial, by rw [ht]; exact hP9, va_K.moved hW.alike hK, hD9⟩, hS.F ht⟩) hS.2.2 dX8_adaptive_83
    · refine lv_iload_n hx hb dX8_adaptive_12 rfl (lv_at hl 1 rfl) ?_
      refine lv_if_ne (tgt := 38) hx hb dX8_adaptive_13 (by decide) (fun c_13 => ?_) (fun c_13 => absurd c_13 (hz0))
      refine lv_iload_n hx hb dX8_adaptive_38 rfl (lv_at hl 1 rfl) ?_
      refine lv_iconst (v := 1) hx hb dX8_adaptive_39 (by decide) ?_
      refine lv_icmp_ne (tgt := 59) hx hb dX8_adaptive_40 (by decide) (fun c_40 => ?_) (fun c_40 => absurd c_40 (hz1))
      refine lv_iconst (v := 0) hx hb dX8_adaptive_59 (by decide) ?_
      refine lv_istore (lv' := [(4, .int 0), (0, .ref m0), (1, .int z), (2, .int x), (3, .int y)]) hx hb dX8_adaptive_60 hl (by decide) rfl (fun ls hl => ?_)
      refine lv_aload_n hx hb dX8_adaptive_62 rfl (lv_at hl 1 rfl) ?_
      refine lv_iload hx hb dX8_adaptive_63 (lv_at hl 0 rfl) ?_
      refine lv_if_eq (tgt := 72) hx hb dX8_adaptive_65 (by decide) (fun _ => ?_) (fun c9 => absurd (by decide) c9)
      refine lv_iconst (v := 1) hx hb dX8_adaptive_72 (by decide) ?_
      refine va_put (D := (dC, dI)) (ci := 7) (v := .int 1) (ty := .int) (C := RX8) (T := TX8) (N := 31) hx hb hts hiX8 tyX8 tyX8_ok nmX8 hown hK hP hD hS 0 rfl rfl 0 (by decide) (hts (.fieldLink RX8 48 "RefineRegionsModel" "thrown" "I") (by decide +kernel)) (fun _ h9 => h9) rfl (by decide +kernel) rfl rfl (Nat.le_of_ble_eq_true rfl) dX8_adaptive_73 (fun H locs hP hD hS => ?_)
      have hP : va_P (dC, dI) vwCl [(m0, .inr (7, [.int 1, .ref m1, .int (nI w), .int (nI h), .int tp, .int ty, .ref m2, .ref m3, .int sf, .int rdg, .int rt, .int (nI rwd), .int (nI rht), .ref m4, .int dx, .int dy, .int p0, .int q0, .int p1, .int q1, .int kp, .ref m5, .ref m6, .int (nI k), .int (nI sk), .int (nI tr), .int (nI co), .long ma, .long mc, .int mt, .int (nI b)]))] H := hP
      have hD : va_D A [(m0, .inr (7, [.int 1, .ref m1, .int (nI w), .int (nI h), .int tp, .int ty, .ref m2, .ref m3, .int sf, .int rdg, .int rt, .int (nI rwd), .int (nI rht), .ref m4, .int dx, .int dy, .int p0, .int q0, .int p1, .int q1, .int kp, .ref m5, .ref m6, .int (nI k), .int (nI sk), .int (nI tr), .int (nI co), .long ma, .long mc, .int mt, .int (nI b)]))] := hD
      refine lv_aload_n hx hb dX8_adaptive_76 rfl (lv_at hl 1 rfl) ?_
      refine va_get (D := (dC, dI)) (ci := 7) (v := .int 1) (C := RX8) (T := TX8) (N := 31) hx hb hts hiX8 hown hK hP 0 rfl rfl 0 (by decide) (hts (.fieldLink RX8 48 "RefineRegionsModel" "thrown" "I") (by decide +kernel)) (fun _ h9 => h9) rfl dX8_adaptive_77 ?_
      refine lv_if_le (tgt := 84) hx hb dX8_adaptive_80 (by decide) (fun c9 => absurd c9 (by decide)) (fun _ => ?_)
      have hP9 := hP
      have hD9 := hD
      exact W.vret hx hb hr (fun t ht hW => ⟨⟨(), rfl, trivial, by rw [ht]; exact hP9, va_K.moved hW.alike hK, hD9⟩, hS.F ht⟩) hS.2.2 dX8_adaptive_83

set_option maxHeartbeats 4000000 in
set_option maxRecDepth 100000 in
/-- keep -/
theorem c_X8_keep (l : Launch) (dC : Nat → ClassId) (dI : Nat → Nat → Nat) (cI cZ cJ : ClassId) (m0 : Nat) (m1 : Nat) (m2 : Nat) (m3 : Nat) (m4 : Nat) (m5 : Nat) (m6 : Nat) (th : Int32) (tp : Int32) (ty : Int32) (sf : Int32) (rdg : Int32) (rt : Int32) (dx : Int32) (dy : Int32) (p0 : Int32) (q0 : Int32) (p1 : Int32) (q1 : Int32) (kp : Int32) (w : Nat) (h : Nat) (rwd : Nat) (rht : Nat) (k : Nat) (sk : Nat) (tr : Nat) (co : Nat) (b : Nat) (ma : Int64) (mc : Int64) (mt : Int32) (bb : Bool) (sz : Nat) : Met l yX8_keep wsX8_keep ({ frames := 0, cells := 0, slots := 0, locals := 0 }) (hw_Pre (dC, dI) vwCl (ty3 cI cZ cJ) [(m0, .inr (7, [.int th, .ref m1, .int (nI w), .int (nI h), .int tp, .int ty, .ref m2, .ref m3, .int sf, .int rdg, .int rt, .int (nI rwd), .int (nI rht), .ref m4, .int dx, .int dy, .int p0, .int q0, .int p1, .int q1, .int kp, .ref m5, .ref m6, .int (nI k), .int (nI sk), .int (nI tr), .int (nI co), .long ma, .long mc, .int mt, .int (nI b)]))] sz [.ref m0, .int (sp_z bb)]) (va_Qv (fun _ : Unit => True) (hw_at (dC, dI) vwCl (ty3 cI cZ cJ) (fun _ : Unit => [(m0, .inr (7, [.int 0, .ref m1, .int (nI w), .int (nI h), .int tp, .int ty, .ref m2, .ref m3, .int sf, .int rdg, .int rt, .int (nI rwd), .int (nI rht), .ref m4, .int dx, .int dy, .int p0, .int q0, .int p1, .int q1, .int (sp_z bb), .ref m5, .ref m6, .int (nI k), .int (nI sk), .int (nI tr), .int (nI co), .long ma, .long mc, .int mt, .int (nI b)]))]) (va_A [(m0, .inr (7, [.int th, .ref m1, .int (nI w), .int (nI h), .int tp, .int ty, .ref m2, .ref m3, .int sf, .int rdg, .int rt, .int (nI rwd), .int (nI rht), .ref m4, .int dx, .int dy, .int p0, .int q0, .int p1, .int q1, .int kp, .ref m5, .ref m6, .int (nI k), .int (nI sk), .int (nI tr), .int (nI co), .long ma, .long mc, .int mt, .int (nI b)]))] sz)) (va_A [(m0, .inr (7, [.int th, .ref m1, .int (nI w), .int (nI h), .int tp, .int ty, .ref m2, .ref m3, .int sf, .int rdg, .int rt, .int (nI rwd), .int (nI rht), .ref m4, .int dx, .int dy, .int p0, .int q0, .int p1, .int q1, .int kp, .ref m5, .ref m6, .int (nI k), .int (nI sk), .int (nI tr), .int (nI co), .long ma, .long mc, .int mt, .int (nI b)]))] sz)) 0 0 (va_A [(m0, .inr (7, [.int th, .ref m1, .int (nI w), .int (nI h), .int tp, .int ty, .ref m2, .ref m3, .int sf, .int rdg, .int rt, .int (nI rwd), .int (nI rht), .ref m4, .int dx, .int dy, .int p0, .int q0, .int p1, .int q1, .int kp, .ref m5, .ref m6, .int (nI k), .int (nI sk), .int (nI tr), .int (nI co), .long ma, .long mc, .int mt, .int (nI b)]))] sz) := by
  refine Met.ofW (cc := cX8_keep) (maxL := 2) (ret := none) (by decide) rfl ?_
  intro pg ev s m args below meth cd s₁ B hml hv
  obtain ⟨rfl, hsz, hP, hK, hN, hZ, hD0⟩ := hv
  have hx := B.exec
  have hb := B.bytes
  have hr := B.returns
  have hts := atoms_spec (ws := wsX8_keep) B.pre
  have hown : s.vm.findClass RX8 = some m.cls := findClass_of_methodNamed B.named
  have hlocks := B.notSynchronized
  subst hsz
  have hD := hD0.self (sz := s.heap.size)
  generalize hAe : va_A [(m0, .inr (7, [.int th, .ref m1, .int (nI w), .int (nI h), .int tp, .int ty, .ref m2, .ref m3, .int sf, .int rdg, .int rt, .int (nI rwd), .int (nI rht), .ref m4, .int dx, .int dy, .int p0, .int q0, .int p1, .int q1, .int kp, .ref m5, .ref m6, .int (nI k), .int (nI sk), .int (nI tr), .int (nI co), .long ma, .long mc, .int mt, .int (nI b)]))] s.heap.size = A at hD hZ ⊢
  have hA : ∀ q : Nat, s.heap.size ≤ q → A q := fun q h => by rw [← hAe]; exact Or.inr h
  have hS : va_S A s.heap s.heap [] := va_S.rf
  have hk : hw_K (dC, dI) vwCl (ty3 cI cZ cJ) A s := ⟨hK, hN, hZ⟩
  have hiX8 : ∀ w ∈ u_ws RX8 TX8 31, w ∈ wsX8_keep := by decide +kernel
  have hl := lv_entry ([.ref m0, .int (sp_z bb)]) (n := 2) (Nat.le_of_ble_eq_true rfl)
  rw [lg_entry_eq]
  generalize (lg_sl ([.ref m0, .int (sp_z bb)]) ++ List.replicate (2 - (lg_sl ([.ref m0, .int (sp_z bb)])).length) Slot.unset).toArray = ls at hl ⊢
  have hl : lv_has ls 2 [(0, .ref m0), (1, .int (sp_z bb))] := hl
  refine lv_aload_n hx hb dX8_keep_0 rfl (lv_at hl 0 rfl) ?_
  refine lv_iconst (v := 0) hx hb dX8_keep_1 (by decide) ?_
  refine va_put (D := (dC, dI)) (ci := 7) (v := .int 0) (ty := .int) (C := RX8) (T := TX8) (N := 31) hx hb hts hiX8 tyX8 tyX8_ok nmX8 hown hK hP hD hS 0 rfl rfl 0 (by decide) (hts (.fieldLink RX8 48 "RefineRegionsModel" "thrown" "I") (by decide +kernel)) (fun _ h9 => h9) rfl (by decide +kernel) rfl rfl (Nat.le_of_ble_eq_true rfl) dX8_keep_2 (fun H locs hP hD hS => ?_)
  have hP : va_P (dC, dI) vwCl [(m0, .inr (7, [.int 0, .ref m1, .int (nI w), .int (nI h), .int tp, .int ty, .ref m2, .ref m3, .int sf, .int rdg, .int rt, .int (nI rwd), .int (nI rht), .ref m4, .int dx, .int dy, .int p0, .int q0, .int p1, .int q1, .int kp, .ref m5, .ref m6, .int (nI k), .int (nI sk), .int (nI tr), .int (nI co), .long ma, .long mc, .int mt, .int (nI b)]))] H := hP
  have hD : va_D A [(m0, .inr (7, [.int 0, .ref m1, .int (nI w), .int (nI h), .int tp, .int ty, .ref m2, .ref m3, .int sf, .int rdg, .int rt, .int (nI rwd), .int (nI rht), .ref m4, .int dx, .int dy, .int p0, .int q0, .int p1, .int q1, .int kp, .ref m5, .ref m6, .int (nI k), .int (nI sk), .int (nI tr), .int (nI co), .long ma, .long mc, .int mt, .int (nI b)]))] := hD
  refine lv_aload_n hx hb dX8_keep_5 rfl (lv_at hl 0 rfl) ?_
  refine lv_iload_n hx hb dX8_keep_6 rfl (lv_at hl 1 rfl) ?_
  refine va_put (D := (dC, dI)) (ci := 7) (v := .int (sp_z bb)) (ty := .boolean) (C := RX8) (T := TX8) (N := 31) hx hb hts hiX8 tyX8 tyX8_ok nmX8 hown hK hP hD hS 0 rfl rfl 20 (by decide) (hts (.fieldLink RX8 84 "RefineRegionsModel" "keeps" "Z") (by decide +kernel)) (fun _ h9 => h9) rfl (by decide +kernel) (hw_z (sp_z_01 _)) (hw_f (sp_z_01 _)) (Nat.le_of_ble_eq_true rfl) dX8_keep_7 (fun H locs hP hD hS => ?_)
  have hP : va_P (dC, dI) vwCl [(m0, .inr (7, [.int 0, .ref m1, .int (nI w), .int (nI h), .int tp, .int ty, .ref m2, .ref m3, .int sf, .int rdg, .int rt, .int (nI rwd), .int (nI rht), .ref m4, .int dx, .int dy, .int p0, .int q0, .int p1, .int q1, .int (sp_z bb), .ref m5, .ref m6, .int (nI k), .int (nI sk), .int (nI tr), .int (nI co), .long ma, .long mc, .int mt, .int (nI b)]))] H := hP
  have hD : va_D A [(m0, .inr (7, [.int 0, .ref m1, .int (nI w), .int (nI h), .int tp, .int ty, .ref m2, .ref m3, .int sf, .int rdg, .int rt, .int (nI rwd), .int (nI rht), .ref m4, .int dx, .int dy, .int p0, .int q0, .int p1, .int q1, .int (sp_z bb), .ref m5, .ref m6, .int (nI k), .int (nI sk), .int (nI tr), .int (nI co), .long ma, .long mc, .int mt, .int (nI b)]))] := hD
  have hP9 := hP
  have hD9 := hD
  exact W.vret hx hb hr (fun t ht hW => ⟨⟨(), rfl, trivial, by rw [ht]; exact hP9, va_K.moved hW.alike hK, hD9⟩, hS.F ht⟩) hS.2.2 dX8_keep_10

set_option maxHeartbeats 4000000 in
set_option maxRecDepth 100000 in
/-- context, where there is such a pixel -/
theorem c_X8_context (l : Launch) (dC : Nat → ClassId) (dI : Nat → Nat → Nat) (cI cZ cJ : ClassId) (m0 : Nat) (m1 : Nat) (m2 : Nat) (m3 : Nat) (m4 : Nat) (m5 : Nat) (m6 : Nat) (th : Int32) (tp : Int32) (ty : Int32) (sf : Int32) (rdg : Int32) (dx : Int32) (dy : Int32) (p0 : Int32) (q0 : Int32) (p1 : Int32) (q1 : Int32) (kp : Int32) (w : Nat) (h : Nat) (rwd : Nat) (rht : Nat) (k : Nat) (sk : Nat) (tr : Nat) (co : Nat) (b : Nat) (ma : Int64) (mc : Int64) (mt : Int32) (pf : Nat → Int32) (rg : Nat → Int32) (x : Int32) (y : Int32) (hw1 : w ≤ 40) (hh1 : h ≤ 40) (hrw : rwd ≤ 60) (hrh : rht ≤ 60) (h01 : sp_01 pf) (hrg : sp_01 rg) (htp : tp = 0 ∨ tp = 1) (hxy : ¬ sp_ho (nI w) (nI h) x y = 0) (sz : Nat) : Met l yX8_context wsX8_context ({ frames := 3, cells := 0, slots := 0, locals := 67 }) (hw_Pre (dC, dI) vwCl (ty3 cI cZ cJ) [(m0, .inr (7, [.int th, .ref m1, .int (nI w), .int (nI h), .int tp, .int ty, .ref m2, .ref m3, .int sf, .int rdg, .int 1, .int (nI rwd), .int (nI rht), .ref m4, .int dx, .int dy, .int p0, .int q0, .int p1, .int q1, .int kp, .ref m5, .ref m6, .int (nI k), .int (nI sk), .int (nI tr), .int (nI co), .long ma, .long mc, .int mt, .int (nI b)])), (m2, .inl (cZ, 1600, .inl pf)), (m4, .inl (cZ, 3600, .inl rg))] sz [.ref m0, .int x, .int y]) (va_Qi (fun (r : Int32) (_ : Unit) => r = sp_cx tp p0 q0 p1 q1 (sp_px (nI 40) (nI w) (nI h) pf) (sp_rf (nI rwd) (nI rht) rg dx dy) x y) (hw_at (dC, dI) vwCl (ty3 cI cZ cJ) (fun _ : Unit => [(m0, .inr (7, [.int 0, .ref m1, .int (nI w), .int (nI h), .int tp, .int ty, .ref m2, .ref m3, .int sf, .int 0, .int 1, .int (nI rwd), .int (nI rht), .ref m4, .int dx, .int dy, .int p0, .int q0, .int p1, .int q1, .int kp, .ref m5, .ref m6, .int (nI k), .int (nI sk), .int (nI tr), .int (nI co), .long ma, .long mc, .int mt, .int (nI b)])), (m2, .inl (cZ, 1600, .inl pf)), (m4, .inl (cZ, 3600, .inl rg))]) (va_A [(m0, .inr (7, [.int th, .ref m1, .int (nI w), .int (nI h), .int tp, .int ty, .ref m2, .ref m3, .int sf, .int rdg, .int 1, .int (nI rwd), .int (nI rht), .ref m4, .int dx, .int dy, .int p0, .int q0, .int p1, .int q1, .int kp, .ref m5, .ref m6, .int (nI k), .int (nI sk), .int (nI tr), .int (nI co), .long ma, .long mc, .int mt, .int (nI b)])), (m2, .inl (cZ, 1600, .inl pf)), (m4, .inl (cZ, 3600, .inl rg))] sz)) (va_A [(m0, .inr (7, [.int th, .ref m1, .int (nI w), .int (nI h), .int tp, .int ty, .ref m2, .ref m3, .int sf, .int rdg, .int 1, .int (nI rwd), .int (nI rht), .ref m4, .int dx, .int dy, .int p0, .int q0, .int p1, .int q1, .int kp, .ref m5, .ref m6, .int (nI k), .int (nI sk), .int (nI tr), .int (nI co), .long ma, .long mc, .int mt, .int (nI b)])), (m2, .inl (cZ, 1600, .inl pf)), (m4, .inl (cZ, 3600, .inl rg))] sz)) 0 0 (va_A [(m0, .inr (7, [.int th, .ref m1, .int (nI w), .int (nI h), .int tp, .int ty, .ref m2, .ref m3, .int sf, .int rdg, .int 1, .int (nI rwd), .int (nI rht), .ref m4, .int dx, .int dy, .int p0, .int q0, .int p1, .int q1, .int kp, .ref m5, .ref m6, .int (nI k), .int (nI sk), .int (nI tr), .int (nI co), .long ma, .long mc, .int mt, .int (nI b)])), (m2, .inl (cZ, 1600, .inl pf)), (m4, .inl (cZ, 3600, .inl rg))] sz) := by
  refine Met.ofW (cc := cX8_context) (maxL := 3) (ret := (some .int)) (by decide) rfl ?_
  intro pg ev s m args below meth cd s₁ B hml hv
  obtain ⟨rfl, hsz, hP, hK, hN, hZ, hD0⟩ := hv
  have hx := B.exec
  have hb := B.bytes
  have hr := B.returns
  have hts := atoms_spec (ws := wsX8_context) B.pre
  have hown : s.vm.findClass RX8 = some m.cls := findClass_of_methodNamed B.named
  have hlocks := B.notSynchronized
  subst hsz
  have hD := hD0.self (sz := s.heap.size)
  generalize hAe : va_A [(m0, .inr (7, [.int th, .ref m1, .int (nI w), .int (nI h), .int tp, .int ty, .ref m2, .ref m3, .int sf, .int rdg, .int 1, .int (nI rwd), .int (nI rht), .ref m4, .int dx, .int dy, .int p0, .int q0, .int p1, .int q1, .int kp, .ref m5, .ref m6, .int (nI k), .int (nI sk), .int (nI tr), .int (nI co), .long ma, .long mc, .int mt, .int (nI b)])), (m2, .inl (cZ, 1600, .inl pf)), (m4, .inl (cZ, 3600, .inl rg))] s.heap.size = A at hD hZ ⊢
  have hA : ∀ q : Nat, s.heap.size ≤ q → A q := fun q h => by rw [← hAe]; exact Or.inr h
  have hS : va_S A s.heap s.heap [] := va_S.rf
  have hk : hw_K (dC, dI) vwCl (ty3 cI cZ cJ) A s := ⟨hK, hN, hZ⟩
  have hiX8 : ∀ w ∈ u_ws RX8 TX8 31, w ∈ wsX8_context := by decide +kernel
  have hl := lv_entry ([.ref m0, .int x, .int y]) (n := 3) (Nat.le_of_ble_eq_true rfl)
  rw [lg_entry_eq]
  generalize (lg_sl ([.ref m0, .int x, .int y]) ++ List.replicate (3 - (lg_sl ([.ref m0, .int x, .int y])).length) Slot.unset).toArray = ls at hl ⊢
  have hl : lv_has ls 3 [(0, .ref m0), (1, .int x), (2, .int y)] := hl
  refine lv_aload_n hx hb dX8_context_0 rfl (lv_at hl 0 rfl) ?_
  refine lv_aload_n hx hb dX8_context_1 rfl (lv_at hl 0 rfl) ?_
  refine va_get (D := (dC, dI)) (ci := 7) (v := .int 1) (C := RX8) (T := TX8) (N := 31) hx hb hts hiX8 hown hK hP 0 rfl rfl 10 (by decide) (hts (.fieldLink RX8 65 "RefineRegionsModel" "hasReference" "Z") (by decide +kernel)) (fun _ h9 => h9) rfl dX8_context_2 ?_
  refine lv_if_ne (tgt := 12) hx hb dX8_context_5 (by decide) (fun _ => ?_) (fun c9 => absurd c9 (by decide))
  refine lv_aload_n hx hb dX8_context_12 rfl (lv_at hl 0 rfl) ?_
  refine lv_iload_n hx hb dX8_context_13 rfl (lv_at hl 1 rfl) ?_
  refine lv_iload_n hx hb dX8_context_14 rfl (lv_at hl 2 rfl) ?_
  refine hw_callSe (va_runV (As := [.int x, .int y]) (rest := [.ref m0]) ⟨hx, hb, hml, hown, hts⟩ (c_X8_noPixel l dC dI cI cZ cJ m0 m1 m2 m3 m4 m5 m6 th tp ty sf rdg 1 dx dy p0 q0 p1 q1 kp w h rwd rht k sk tr co b ma mc mt x y) (cwV 2 hts gX8_context_X8_noPixel rfl rfl rfl (by decide +kernel) ⟨Nat.le_of_ble_eq_true rfl, Nat.le_of_ble_eq_true rfl⟩) (hw_roV hP hS hk [0] rfl (ci := 7) (q0 := 0) rfl rfl) rfl rfl hl.1 rfl (lv_room (Nat.le_of_ble_eq_true rfl)) dX8_context_15 ⟨Nat.le_of_ble_eq_true rfl, Nat.le_of_ble_eq_true rfl⟩) ?_
  refine lv_if_eq (tgt := 25) hx hb dX8_context_18 (by decide) (fun c_18 => ?_) (fun c_18 => absurd (sp_no_y hxy) c_18)
  refine lv_iconst (v := 0) hx hb dX8_context_25 (by decide) ?_
  refine va_put (D := (dC, dI)) (ci := 7) (v := .int 0) (ty := .int) (C := RX8) (T := TX8) (N := 31) hx hb hts hiX8 tyX8 tyX8_ok nmX8 hown hK hP hD hS 0 rfl rfl 0 (by decide) (hts (.fieldLink RX8 48 "RefineRegionsModel" "thrown" "I") (by decide +kernel)) (fun _ h9 => h9) rfl (by decide +kernel) rfl rfl (Nat.le_of_ble_eq_true rfl) dX8_context_26 (fun H locs hP hD hS => ?_)
  have hP : va_P (dC, dI) vwCl [(m0, .inr (7, [.int 0, .ref m1, .int (nI w), .int (nI h), .int tp, .int ty, .ref m2, .ref m3, .int sf, .int rdg, .int 1, .int (nI rwd), .int (nI rht), .ref m4, .int dx, .int dy, .int p0, .int q0, .int p1, .int q1, .int kp, .ref m5, .ref m6, .int (nI k), .int (nI sk), .int (nI tr), .int (nI co), .long ma, .long mc, .int mt, .int (nI b)])), (m2, .inl (cZ, 1600, .inl pf)), (m4, .inl (cZ, 3600, .inl rg))] H := hP
  have hD : va_D A [(m0, .inr (7, [.int 0, .ref m1, .int (nI w), .int (nI h), .int tp, .int ty, .ref m2, .ref m3, .int sf, .int rdg, .int 1, .int (nI rwd), .int (nI rht), .ref m4, .int dx, .int dy, .int p0, .int q0, .int p1, .int q1, .int kp, .ref m5, .ref m6, .int (nI k), .int (nI sk), .int (nI tr), .int (nI co), .long ma, .long mc, .int mt, .int (nI b)])), (m2, .inl (cZ, 1600, .inl pf)), (m4, .inl (cZ, 3600, .inl rg))] := hD
  refine lv_aload_n hx hb dX8_context_29 rfl (lv_at hl 0 rfl) ?_
  refine va_get (D := (dC, dI)) (ci := 7) (v := .int 0) (C := RX8) (T := TX8) (N := 31) hx hb hts hiX8 hown hK hP 0 rfl rfl 0 (by decide) (hts (.fieldLink RX8 48 "RefineRegionsModel" "thrown" "I") (by decide +kernel)) (fun _ h9 => h9) rfl dX8_context_30 ?_
  refine lv_if_le (tgt := 38) hx hb dX8_context_33 (by decide) (fun _ => ?_) (fun c9 => absurd (by decide) c9)
  refine lv_aload_n hx hb dX8_context_38 rfl (lv_at hl 0 rfl) ?_
  refine lv_iconst (v := 0) hx hb dX8_context_39 (by decide) ?_
  refine va_put (D := (dC, dI)) (ci := 7) (v := .int 0) (ty := .boolean) (C := RX8) (T := TX8) (N := 31) hx hb hts hiX8 tyX8 tyX8_ok nmX8 hown hK hP hD hS 0 rfl rfl 9 (by decide) (hts (.fieldLink RX8 87 "RefineRegionsModel" "reading" "Z") (by decide +kernel)) (fun _ h9 => h9) rfl (by decide +kernel) (by decide +kernel) rfl (Nat.le_of_ble_eq_true rfl) dX8_context_40 (fun H locs hP hD hS => ?_)
  have hP : va_P (dC, dI) vwCl [(m0, .inr (7, [.int 0, .ref m1, .int (nI w), .int (nI h), .int tp, .int ty, .ref m2, .ref m3, .int sf, .int 0, .int 1, .int (nI rwd), .int (nI rht), .ref m4, .int dx, .int dy, .int p0, .int q0, .int p1, .int q1, .int kp, .ref m5, .ref m6, .int (nI k), .int (nI sk), .int (nI tr), .int (nI co), .long ma, .long mc, .int mt, .int (nI b)])), (m2, .inl (cZ, 1600, .inl pf)), (m4, .inl (cZ, 3600, .inl rg))] H := hP
  have hD : va_D A [(m0, .inr (7, [.int 0, .ref m1, .int (nI w), .int (nI h), .int tp, .int ty, .ref m2, .ref m3, .int sf, .int 0, .int 1, .int (nI rwd), .int (nI rht), .ref m4, .int dx, .int dy, .int p0, .int q0, .int p1, .int q1, .int kp, .ref m5, .ref m6, .int (nI k), .int (nI sk), .int (nI tr), .int (nI co), .long ma, .long mc, .int mt, .int (nI b)])), (m2, .inl (cZ, 1600, .inl pf)), (m4, .inl (cZ, 3600, .inl rg))] := hD
  refine lv_aload_n hx hb dX8_context_43 rfl (lv_at hl 0 rfl) ?_
  refine lv_iload_n hx hb dX8_context_44 rfl (lv_at hl 1 rfl) ?_
  refine lv_iload_n hx hb dX8_context_45 rfl (lv_at hl 2 rfl) ?_
  refine hw_callSe (va_runV (As := [.int x, .int y]) (rest := []) ⟨hx, hb, hml, hown, hts⟩ (c_X8_contextOf_0 l dC dI cI cZ cJ m0 m1 m2 m3 m4 m5 m6 0 tp ty sf 1 dx dy p0 q0 p1 q1 kp w h rwd rht k sk tr co b ma mc mt pf rg x y (hw1) (hh1) (hrw) (hrh) (h01) (hrg) (htp)) (cwV 2 hts gX8_context_X8_contextOf rfl rfl rfl (by decide +kernel) ⟨Nat.le_of_ble_eq_true rfl, Nat.le_of_ble_eq_true rfl⟩) (hw_roV hP hS hk [0, 1, 2] rfl (ci := 7) (q0 := 0) rfl rfl) rfl rfl hl.1 rfl (lv_room (Nat.le_of_ble_eq_true rfl)) dX8_context_46 ⟨Nat.le_of_ble_eq_true rfl, Nat.le_of_ble_eq_true rfl⟩) ?_
  have hP9 := hP
  have hD9 := hD
  exact W.iret (v := sp_cx tp p0 q0 p1 q1 (sp_px (nI 40) (nI w) (nI h) pf) (sp_rf (nI rwd) (nI rht) rg dx dy) x y) hx hb hr (fun t ht hW => ⟨⟨sp_cx tp p0 q0 p1 q1 (sp_px (nI 40) (nI w) (nI h) pf) (sp_rf (nI rwd) (nI rht) rg dx dy) x y, (), rfl, rfl, by rw [ht]; exact hP9, va_K.moved hW.alike hK, hD9⟩, hS.F ht⟩) hS.2.2 dX8_context_49

set_option maxHeartbeats 4000000 in
set_option maxRecDepth 100000 in
/-- context, refused 1 -/
theorem c_X8_context_no1 (l : Launch) (dC : Nat → ClassId) (dI : Nat → Nat → Nat) (cI cZ cJ : ClassId) (m0 : Nat) (m1 : Nat) (m2 : Nat) (m3 : Nat) (m4 : Nat) (m5 : Nat) (m6 : Nat) (th : Int32) (tp : Int32) (ty : Int32) (sf : Int32) (rdg : Int32) (dx : Int32) (dy : Int32) (p0 : Int32) (q0 : Int32) (p1 : Int32) (q1 : Int32) (kp : Int32) (w : Nat) (h : Nat) (rwd : Nat) (rht : Nat) (k : Nat) (sk : Nat) (tr : Nat) (co : Nat) (b : Nat) (ma : Int64) (mc : Int64) (mt : Int32) (x : Int32) (y : Int32) (sz : Nat) : Met l yX8_context wsX8_context ({ frames := 0, cells := 0, slots := 0, locals := 0 }) (hw_Pre (dC, dI) vwCl (ty3 cI cZ cJ) [(m0, .inr (7, [.int th, .ref m1, .int (nI w), .int (nI h), .int tp, .int ty, .ref m2, .ref m3, .int sf, .int rdg, .int 0, .int (nI rwd), .int (nI rht), .ref m4, .int dx, .int dy, .int p0, .int q0, .int p1, .int q1, .int kp, .ref m5, .ref m6, .int (nI k), .int (nI sk), .int (nI tr), .int (nI co), .long ma, .long mc, .int mt, .int (nI b)]))] sz [.ref m0, .int x, .int y]) (va_Qi (fun (r : Int32) (_ : Unit) => r = 0) (hw_at (dC, dI) vwCl (ty3 cI cZ cJ) (fun _ : Unit => [(m0, .inr (7, [.int 1, .ref m1, .int (nI w), .int (nI h), .int tp, .int ty, .ref m2, .ref m3, .int sf, .int rdg, .int 0, .int (nI rwd), .int (nI rht), .ref m4, .int dx, .int dy, .int p0, .int q0, .int p1, .int q1, .int kp, .ref m5, .ref m6, .int (nI k), .int (nI sk), .int (nI tr), .int (nI co), .long ma, .long mc, .int mt, .int (nI b)]))]) (va_A [(m0, .inr (7, [.int th, .ref m1, .int (nI w), .int (nI h), .int tp, .int ty, .ref m2, .ref m3, .int sf, .int rdg, .int 0, .int (nI rwd), .int (nI rht), .ref m4, .int dx, .int dy, .int p0, .int q0, .int p1, .int q1, .int kp, .ref m5, .ref m6, .int (nI k), .int (nI sk), .int (nI tr), .int (nI co), .long ma, .long mc, .int mt, .int (nI b)]))] sz)) (va_A [(m0, .inr (7, [.int th, .ref m1, .int (nI w), .int (nI h), .int tp, .int ty, .ref m2, .ref m3, .int sf, .int rdg, .int 0, .int (nI rwd), .int (nI rht), .ref m4, .int dx, .int dy, .int p0, .int q0, .int p1, .int q1, .int kp, .ref m5, .ref m6, .int (nI k), .int (nI sk), .int (nI tr), .int (nI co), .long ma, .long mc, .int mt, .int (nI b)]))] sz)) 0 0 (va_A [(m0, .inr (7, [.int th, .ref m1, .int (nI w), .int (nI h), .int tp, .int ty, .ref m2, .ref m3, .int sf, .int rdg, .int 0, .int (nI rwd), .int (nI rht), .ref m4, .int dx, .int dy, .int p0, .int q0, .int p1, .int q1, .int kp, .ref m5, .ref m6, .int (nI k), .int (nI sk), .int (nI tr), .int (nI co), .long ma, .long mc, .int mt, .int (nI b)]))] sz) := by
  refine Met.ofW (cc := cX8_context) (maxL := 3) (ret := (some .int)) (by decide) rfl ?_
  intro pg ev s m args below meth cd s₁ B hml hv
  obtain ⟨rfl, hsz, hP, hK, hN, hZ, hD0⟩ := hv
  have hx := B.exec
  have hb := B.bytes
  have hr := B.returns
  have hts := atoms_spec (ws := wsX8_context) B.pre
  have hown : s.vm.findClass RX8 = some m.cls := findClass_of_methodNamed B.named
  have hlocks := B.notSynchronized
  subst hsz
  have hD := hD0.self (sz := s.heap.size)
  generalize hAe : va_A [(m0, .inr (7, [.int th, .ref m1, .int (nI w), .int (nI h), .int tp, .int ty, .ref m2, .ref m3, .int sf, .int rdg, .int 0, .int (nI rwd), .int (nI rht), .ref m4, .int dx, .int dy, .int p0, .int q0, .int p1, .int q1, .int kp, .ref m5, .ref m6, .int (nI k), .int (nI sk), .int (nI tr), .int (nI co), .long ma, .long mc, .int mt, .int (nI b)]))] s.heap.size = A at hD hZ ⊢
  have hA : ∀ q : Nat, s.heap.size ≤ q → A q := fun q h => by rw [← hAe]; exact Or.inr h
  have hS : va_S A s.heap s.heap [] := va_S.rf
  have hk : hw_K (dC, dI) vwCl (ty3 cI cZ cJ) A s := ⟨hK, hN, hZ⟩
  have hiX8 : ∀ w ∈ u_ws RX8 TX8 31, w ∈ wsX8_context := by decide +kernel
  have hl := lv_entry ([.ref m0, .int x, .int y]) (n := 3) (Nat.le_of_ble_eq_true rfl)
  rw [lg_entry_eq]
  generalize (lg_sl ([.ref m0, .int x, .int y]) ++ List.replicate (3 - (lg_sl ([.ref m0, .int x, .int y])).length) Slot.unset).toArray = ls at hl ⊢
  have hl : lv_has ls 3 [(0, .ref m0), (1, .int x), (2, .int y)] := hl
  refine lv_aload_n hx hb dX8_context_0 rfl (lv_at hl 0 rfl) ?_
  refine lv_aload_n hx hb dX8_context_1 rfl (lv_at hl 0 rfl) ?_
  refine va_get (D := (dC, dI)) (ci := 7) (v := .int 0) (C := RX8) (T := TX8) (N := 31) hx hb hts hiX8 hown hK hP 0 rfl rfl 10 (by decide) (hts (.fieldLink RX8 65 "RefineRegionsModel" "hasReference" "Z") (by decide +kernel)) (fun _ h9 => h9) rfl dX8_context_2 ?_
  refine lv_if_ne (tgt := 12) hx hb dX8_context_5 (by decide) (fun c9 => absurd c9 (by decide)) (fun _ => ?_)
  refine lv_iconst (v := 1) hx hb dX8_context_8 (by decide) ?_
  refine lv_goto (tgt := 26) hx hb dX8_context_9 (by decide) ?_
  refine va_put (D := (dC, dI)) (ci := 7) (v := .int 1) (ty := .int) (C := RX8) (T := TX8) (N := 31) hx hb hts hiX8 tyX8 tyX8_ok nmX8 hown hK hP hD hS 0 rfl rfl 0 (by decide) (hts (.fieldLink RX8 48 "RefineRegionsModel" "thrown" "I") (by decide +kernel)) (fun _ h9 => h9) rfl (by decide +kernel) rfl rfl (Nat.le_of_ble_eq_true rfl) dX8_context_26 (fun H locs hP hD hS => ?_)
  have hP : va_P (dC, dI) vwCl [(m0, .inr (7, [.int 1, .ref m1, .int (nI w), .int (nI h), .int tp, .int ty, .ref m2, .ref m3, .int sf, .int rdg, .int 0, .int (nI rwd), .int (nI rht), .ref m4, .int dx, .int dy, .int p0, .int q0, .int p1, .int q1, .int kp, .ref m5, .ref m6, .int (nI k), .int (nI sk), .int (nI tr), .int (nI co), .long ma, .long mc, .int mt, .int (nI b)]))] H := hP
  have hD : va_D A [(m0, .inr (7, [.int 1, .ref m1, .int (nI w), .int (nI h), .int tp, .int ty, .ref m2, .ref m3, .int sf, .int rdg, .int 0, .int (nI rwd), .int (nI rht), .ref m4, .int dx, .int dy, .int p0, .int q0, .int p1, .int q1, .int kp, .ref m5, .ref m6, .int (nI k), .int (nI sk), .int (nI tr), .int (nI co), .long ma, .long mc, .int mt, .int (nI b)]))] := hD
  refine lv_aload_n hx hb dX8_context_29 rfl (lv_at hl 0 rfl) ?_
  refine va_get (D := (dC, dI)) (ci := 7) (v := .int 1) (C := RX8) (T := TX8) (N := 31) hx hb hts hiX8 hown hK hP 0 rfl rfl 0 (by decide) (hts (.fieldLink RX8 48 "RefineRegionsModel" "thrown" "I") (by decide +kernel)) (fun _ h9 => h9) rfl dX8_context_30 ?_
  refine lv_if_le (tgt := 38) hx hb dX8_context_33 (by decide) (fun c9 => absurd c9 (by decide)) (fun _ => ?_)
  refine lv_iconst (v := 0) hx hb dX8_context_36 (by decide) ?_
  have hP9 := hP
  have hD9 := hD
  exact W.iret (v := 0) hx hb hr (fun t ht hW => ⟨⟨0, (), rfl, rfl, by rw [ht]; exact hP9, va_K.moved hW.alike hK, hD9⟩, hS.F ht⟩) hS.2.2 dX8_context_37

set_option maxHeartbeats 4000000 in
set_option maxRecDepth 100000 in
/-- context, refused 2 -/
theorem c_X8_context_no2 (l : Launch) (dC : Nat → ClassId) (dI : Nat → Nat → Nat) (cI cZ cJ : ClassId) (m0 : Nat) (m1 : Nat) (m2 : Nat) (m3 : Nat) (m4 : Nat) (m5 : Nat) (m6 : Nat) (th : Int32) (tp : Int32) (ty : Int32) (sf : Int32) (rdg : Int32) (dx : Int32) (dy : Int32) (p0 : Int32) (q0 : Int32) (p1 : Int32) (q1 : Int32) (kp : Int32) (w : Nat) (h : Nat) (rwd : Nat) (rht : Nat) (k : Nat) (sk : Nat) (tr : Nat) (co : Nat) (b : Nat) (ma : Int64) (mc : Int64) (mt : Int32) (x : Int32) (y : Int32) (hxy : sp_ho (nI w) (nI h) x y = 0) (sz : Nat) : Met l yX8_context wsX8_context ({ frames := 1, cells := 0, slots := 0, locals := 22 }) (hw_Pre (dC, dI) vwCl (ty3 cI cZ cJ) [(m0, .inr (7, [.int th, .ref m1, .int (nI w), .int (nI h), .int tp, .int ty, .ref m2, .ref m3, .int sf, .int rdg, .int 1, .int (nI rwd), .int (nI rht), .ref m4, .int dx, .int dy, .int p0, .int q0, .int p1, .int q1, .int kp, .ref m5, .ref m6, .int (nI k), .int (nI sk), .int (nI tr), .int (nI co), .long ma, .long mc, .int mt, .int (nI b)]))] sz [.ref m0, .int x, .int y]) (va_Qi (fun (r : Int32) (_ : Unit) => r = 0) (hw_at (dC, dI) vwCl (ty3 cI cZ cJ) (fun _ : Unit => [(m0, .inr (7, [.int 2, .ref m1, .int (nI w), .int (nI h), .int tp, .int ty, .ref m2, .ref m3, .int sf, .int rdg, .int 1, .int (nI rwd), .int (nI rht), .ref m4, .int dx, .int dy, .int p0, .int q0, .int p1, .int q1, .int kp, .ref m5, .ref m6, .int (nI k), .int (nI sk), .int (nI tr), .int (nI co), .long ma, .long mc, .int mt, .int (nI b)]))]) (va_A [(m0, .inr (7, [.int th, .ref m1, .int (nI w), .int (nI h), .int tp, .int ty, .ref m2, .ref m3, .int sf, .int rdg, .int 1, .int (nI rwd), .int (nI rht), .ref m4, .int dx, .int dy, .int p0, .int q0, .int p1, .int q1, .int kp, .ref m5, .ref m6, .int (nI k), .int (nI sk), .int (nI tr), .int (nI co), .long ma, .long mc, .int mt, .int (nI b)]))] sz)) (va_A [(m0, .inr (7, [.int th, .ref m1, .int (nI w), .int (nI h), .int tp, .int ty, .ref m2, .ref m3, .int sf, .int rdg, .int 1, .int (nI rwd), .int (nI rht), .ref m4, .int dx, .int dy, .int p0, .int q0, .int p1, .int q1, .int kp, .ref m5, .ref m6, .int (nI k), .int (nI sk), .int (nI tr), .int (nI co), .long ma, .long mc, .int mt, .int (nI b)]))] sz)) 0 0 (va_A [(m0, .inr (7, [.int th, .ref m1, .int (nI w), .int (nI h), .int tp, .int ty, .ref m2, .ref m3, .int sf, .int rdg, .int 1, .int (nI rwd), .int (nI rht), .ref m4, .int dx, .int dy, .int p0, .int q0, .int p1, .int q1, .int kp, .ref m5, .ref m6, .int (nI k), .int (nI sk), .int (nI tr), .int (nI co), .long ma, .long mc, .int mt, .int (nI b)]))] sz) := by
  refine Met.ofW (cc := cX8_context) (maxL := 3) (ret := (some .int)) (by decide) rfl ?_
  intro pg ev s m args below meth cd s₁ B hml hv
  obtain ⟨rfl, hsz, hP, hK, hN, hZ, hD0⟩ := hv
  have hx := B.exec
  have hb := B.bytes
  have hr := B.returns
  have hts := atoms_spec (ws := wsX8_context) B.pre
  have hown : s.vm.findClass RX8 = some m.cls := findClass_of_methodNamed B.named
  have hlocks := B.notSynchronized
  subst hsz
  have hD := hD0.self (sz := s.heap.size)
  generalize hAe : va_A [(m0, .inr (7, [.int th, .ref m1, .int (nI w), .int (nI h), .int tp, .int ty, .ref m2, .ref m3, .int sf, .int rdg, .int 1, .int (nI rwd), .int (nI rht), .ref m4, .int dx, .int dy, .int p0, .int q0, .int p1, .int q1, .int kp, .ref m5, .ref m6, .int (nI k), .int (nI sk), .int (nI tr), .int (nI co), .long ma, .long mc, .int mt, .int (nI b)]))] s.heap.size = A at hD hZ ⊢
  have hA : ∀ q : Nat, s.heap.size ≤ q → A q := fun q h => by rw [← hAe]; exact Or.inr h
  have hS : va_S A s.heap s.heap [] := va_S.rf
  have hk : hw_K (dC, dI) vwCl (ty3 cI cZ cJ) A s := ⟨hK, hN, hZ⟩
  have hiX8 : ∀ w ∈ u_ws RX8 TX8 31, w ∈ wsX8_context := by decide +kernel
  have hl := lv_entry ([.ref m0, .int x, .int y]) (n := 3) (Nat.le_of_ble_eq_true rfl)
  rw [lg_entry_eq]
  generalize (lg_sl ([.ref m0, .int x, .int y]) ++ List.replicate (3 - (lg_sl ([.ref m0, .int x, .int y])).length) Slot.unset).toArray = ls at hl ⊢
  have hl : lv_has ls 3 [(0, .ref m0), (1, .int x), (2, .int y)] := hl
  refine lv_aload_n hx hb dX8_context_0 rfl (lv_at hl 0 rfl) ?_
  refine lv_aload_n hx hb dX8_context_1 rfl (lv_at hl 0 rfl) ?_
  refine va_get (D := (dC, dI)) (ci := 7) (v := .int 1) (C := RX8) (T := TX8) (N := 31) hx hb hts hiX8 hown hK hP 0 rfl rfl 10 (by decide) (hts (.fieldLink RX8 65 "RefineRegionsModel" "hasReference" "Z") (by decide +kernel)) (fun _ h9 => h9) rfl dX8_context_2 ?_
  refine lv_if_ne (tgt := 12) hx hb dX8_context_5 (by decide) (fun _ => ?_) (fun c9 => absurd c9 (by decide))
  refine lv_aload_n hx hb dX8_context_12 rfl (lv_at hl 0 rfl) ?_
  refine lv_iload_n hx hb dX8_context_13 rfl (lv_at hl 1 rfl) ?_
  refine lv_iload_n hx hb dX8_context_14 rfl (lv_at hl 2 rfl) ?_
  refine hw_callSe (va_runV (As := [.int x, .int y]) (rest := [.ref m0]) ⟨hx, hb, hml, hown, hts⟩ (c_X8_noPixel l dC dI cI cZ cJ m0 m1 m2 m3 m4 m5 m6 th tp ty sf rdg 1 dx dy p0 q0 p1 q1 kp w h rwd rht k sk tr co b ma mc mt x y) (cwV 2 hts gX8_context_X8_noPixel rfl rfl rfl (by decide +kernel) ⟨Nat.le_of_ble_eq_true rfl, Nat.le_of_ble_eq_true rfl⟩) (hw_roV hP hS hk [0] rfl (ci := 7) (q0 := 0) rfl rfl) rfl rfl hl.1 rfl (lv_room (Nat.le_of_ble_eq_true rfl)) dX8_context_15 ⟨Nat.le_of_ble_eq_true rfl, Nat.le_of_ble_eq_true rfl⟩) ?_
  refine lv_if_eq (tgt := 25) hx hb dX8_context_18 (by decide) (fun c_18 => absurd c_18 (sp_no_n hxy)) (fun c_18 => ?_)
  refine lv_iconst (v := 2) hx hb dX8_context_21 (by decide) ?_
  refine lv_goto (tgt := 26) hx hb dX8_context_22 (by decide) ?_
  refine va_put (D := (dC, dI)) (ci := 7) (v := .int 2) (ty := .int) (C := RX8) (T := TX8) (N := 31) hx hb hts hiX8 tyX8 tyX8_ok nmX8 hown hK hP hD hS 0 rfl rfl 0 (by decide) (hts (.fieldLink RX8 48 "RefineRegionsModel" "thrown" "I") (by decide +kernel)) (fun _ h9 => h9) rfl (by decide +kernel) rfl rfl (Nat.le_of_ble_eq_true rfl) dX8_context_26 (fun H locs hP hD hS => ?_)
  have hP : va_P (dC, dI) vwCl [(m0, .inr (7, [.int 2, .ref m1, .int (nI w), .int (nI h), .int tp, .int ty, .ref m2, .ref m3, .int sf, .int rdg, .int 1, .int (nI rwd), .int (nI rht), .ref m4, .int dx, .int dy, .int p0, .int q0, .int p1, .int q1, .int kp, .ref m5, .ref m6, .int (nI k), .int (nI sk), .int (nI tr), .int (nI co), .long ma, .long mc, .int mt, .int (nI b)]))] H := hP
  have hD : va_D A [(m0, .inr (7, [.int 2, .ref m1, .int (nI w), .int (nI h), .int tp, .int ty, .ref m2, .ref m3, .int sf, .int rdg, .int 1, .int (nI rwd), .int (nI rht), .ref m4, .int dx, .int dy, .int p0, .int q0, .int p1, .int q1, .int kp, .ref m5, .ref m6, .int (nI k), .int (nI sk), .int (nI tr), .int (nI co), .long ma, .long mc, .int mt, .int (nI b)]))] := hD
  refine lv_aload_n hx hb dX8_context_29 rfl (lv_at hl 0 rfl) ?_
  refine va_get (D := (dC, dI)) (ci := 7) (v := .int 2) (C := RX8) (T := TX8) (N := 31) hx hb hts hiX8 hown hK hP 0 rfl rfl 0 (by decide) (hts (.fieldLink RX8 48 "RefineRegionsModel" "thrown" "I") (by decide +kernel)) (fun _ h9 => h9) rfl dX8_context_30 ?_
  refine lv_if_le (tgt := 38) hx hb dX8_context_33 (by decide) (fun c9 => absurd c9 (by decide)) (fun _ => ?_)
  refine lv_iconst (v := 0) hx hb dX8_context_36 (by decide) ?_
  have hP9 := hP
  have hD9 := hD
  exact W.iret (v := 0) hx hb hr (fun t ht hW => ⟨⟨0, (), rfl, rfl, by rw [ht]; exact hP9, va_K.moved hW.alike hK, hD9⟩, hS.F ht⟩) hS.2.2 dX8_context_37

set_option maxHeartbeats 4000000 in
set_option maxRecDepth 100000 in
/-- feed, refused -/
theorem c_X8_feed_no (l : Launch) (dC : Nat → ClassId) (dI : Nat → Nat → Nat) (cI cZ cJ : ClassId) (m0 : Nat) (m1 : Nat) (m2 : Nat) (m3 : Nat) (m4 : Nat) (m5 : Nat) (m6 : Nat) (th : Int32) (tp : Int32) (ty : Int32) (sf : Int32) (rdg : Int32) (rt : Int32) (dx : Int32) (dy : Int32) (p0 : Int32) (q0 : Int32) (p1 : Int32) (q1 : Int32) (kp : Int32) (w : Nat) (h : Nat) (rwd : Nat) (rht : Nat) (k : Nat) (sk : Nat) (tr : Nat) (co : Nat) (b : Nat) (ma : Int64) (mc : Int64) (mt : Int32) (x : Int32) (v : Int64) (hno : sp_iw x 1 8 = 0) (sz : Nat) : Met l yX8_feed wsX8_feed ({ frames := 0, cells := 0, slots := 0, locals := 0 }) (hw_Pre (dC, dI) vwCl (ty3 cI cZ cJ) [(m0, .inr (7, [.int th, .ref m1, .int (nI w), .int (nI h), .int tp, .int ty, .ref m2, .ref m3, .int sf, .int rdg, .int rt, .int (nI rwd), .int (nI rht), .ref m4, .int dx, .int dy, .int p0, .int q0, .int p1, .int q1, .int kp, .ref m5, .ref m6, .int (nI k), .int (nI sk), .int (nI tr), .int (nI co), .long ma, .long mc, .int mt, .int (nI b)]))] sz [.ref m0, .int x, .long v]) (va_Qi (fun (r : Int32) (_ : Unit) => r = 0) (hw_at (dC, dI) vwCl (ty3 cI cZ cJ) (fun _ : Unit => [(m0, .inr (7, [.int 1, .ref m1, .int (nI w), .int (nI h), .int tp, .int ty, .ref m2, .ref m3, .int sf, .int rdg, .int rt, .int (nI rwd), .int (nI rht), .ref m4, .int dx, .int dy, .int p0, .int q0, .int p1, .int q1, .int kp, .ref m5, .ref m6, .int (nI k), .int (nI sk), .int (nI tr), .int (nI co), .long ma, .long mc, .int mt, .int (nI b)]))]) (va_A [(m0, .inr (7, [.int th, .ref m1, .int (nI w), .int (nI h), .int tp, .int ty, .ref m2, .ref m3, .int sf, .int rdg, .int rt, .int (nI rwd), .int (nI rht), .ref m4, .int dx, .int dy, .int p0, .int q0, .int p1, .int q1, .int kp, .ref m5, .ref m6, .int (nI k), .int (nI sk), .int (nI tr), .int (nI co), .long ma, .long mc, .int mt, .int (nI b)]))] sz)) (va_A [(m0, .inr (7, [.int th, .ref m1, .int (nI w), .int (nI h), .int tp, .int ty, .ref m2, .ref m3, .int sf, .int rdg, .int rt, .int (nI rwd), .int (nI rht), .ref m4, .int dx, .int dy, .int p0, .int q0, .int p1, .int q1, .int kp, .ref m5, .ref m6, .int (nI k), .int (nI sk), .int (nI tr), .int (nI co), .long ma, .long mc, .int mt, .int (nI b)]))] sz)) 0 0 (va_A [(m0, .inr (7, [.int th, .ref m1, .int (nI w), .int (nI h), .int tp, .int ty, .ref m2, .ref m3, .int sf, .int rdg, .int rt, .int (nI rwd), .int (nI rht), .ref m4, .int dx, .int dy, .int p0, .int q0, .int p1, .int q1, .int kp, .ref m5, .ref m6, .int (nI k), .int (nI sk), .int (nI tr), .int (nI co), .long ma, .long mc, .int mt, .int (nI b)]))] sz) := by
  refine Met.ofW (cc := cX8_feed) (maxL := 5) (ret := (some .int)) (by decide) rfl ?_
  intro pg ev s m args below meth cd s₁ B hml hv
  obtain ⟨rfl, hsz, hP, hK, hN, hZ, hD0⟩ := hv
  have hx := B.exec
  have hb := B.bytes
  have hr := B.returns
  have hts := atoms_spec (ws := wsX8_feed) B.pre
  have hown : s.vm.findClass RX8 = some m.cls := findClass_of_methodNamed B.named
  have hlocks := B.notSynchronized
  subst hsz
  have hD := hD0.self (sz := s.heap.size)
  generalize hAe : va_A [(m0, .inr (7, [.int th, .ref m1, .int (nI w), .int (nI h), .int tp, .int ty, .ref m2, .ref m3, .int sf, .int rdg, .int rt, .int (nI rwd), .int (nI rht), .ref m4, .int dx, .int dy, .int p0, .int q0, .int p1, .int q1, .int kp, .ref m5, .ref m6, .int (nI k), .int (nI sk), .int (nI tr), .int (nI co), .long ma, .long mc, .int mt, .int (nI b)]))] s.heap.size = A at hD hZ ⊢
  have hA : ∀ q : Nat, s.heap.size ≤ q → A q := fun q h => by rw [← hAe]; exact Or.inr h
  have hS : va_S A s.heap s.heap [] := va_S.rf
  have hk : hw_K (dC, dI) vwCl (ty3 cI cZ cJ) A s := ⟨hK, hN, hZ⟩
  have hiX8 : ∀ w ∈ u_ws RX8 TX8 31, w ∈ wsX8_feed := by decide +kernel
  have hl := lv_entry ([.ref m0, .int x, .long v]) (n := 5) (Nat.le_of_ble_eq_true rfl)
  rw [lg_entry_eq]
  generalize (lg_sl ([.ref m0, .int x, .long v]) ++ List.replicate (5 - (lg_sl ([.ref m0, .int x, .long v])).length) Slot.unset).toArray = ls at hl ⊢
  have hl : lv_has ls 5 [(0, .ref m0), (1, .int x), (2, .long v)] := hl
  refine lv_aload_n hx hb dX8_feed_0 rfl (lv_at hl 0 rfl) ?_
  refine lv_iload_n hx hb dX8_feed_1 rfl (lv_at hl 1 rfl) ?_
  refine lv_iconst (v := 1) hx hb dX8_feed_2 (by decide) ?_
  refine lv_icmp_lt (tgt := 12) hx hb dX8_feed_3 (by decide) (fun c_3 => ?_) (fun c_3 => ?_)
  · refine lv_iconst (v := 1) hx hb dX8_feed_12 (by decide) ?_
    refine lv_goto (tgt := 17) hx hb dX8_feed_13 (by decide) ?_
    refine va_put (D := (dC, dI)) (ci := 7) (v := .int 1) (ty := .int) (C := RX8) (T := TX8) (N := 31) hx hb hts hiX8 tyX8 tyX8_ok nmX8 hown hK hP hD hS 0 rfl rfl 0 (by decide) (hts (.fieldLink RX8 48 "RefineRegionsModel" "thrown" "I") (by decide +kernel)) (fun _ h9 => h9) rfl (by decide +kernel) rfl rfl (Nat.le_of_ble_eq_true rfl) dX8_feed_17 (fun H locs hP hD hS => ?_)
    have hP : va_P (dC, dI) vwCl [(m0, .inr (7, [.int 1, .ref m1, .int (nI w), .int (nI h), .int tp, .int ty, .ref m2, .ref m3, .int sf, .int rdg, .int rt, .int (nI rwd), .int (nI rht), .ref m4, .int dx, .int dy, .int p0, .int q0, .int p1, .int q1, .int kp, .ref m5, .ref m6, .int (nI k), .int (nI sk), .int (nI tr), .int (nI co), .long ma, .long mc, .int mt, .int (nI b)]))] H := hP
    have hD : va_D A [(m0, .inr (7, [.int 1, .ref m1, .int (nI w), .int (nI h), .int tp, .int ty, .ref m2, .ref m3, .int sf, .int rdg, .int rt, .int (nI rwd), .int (nI rht), .ref m4, .int dx, .int dy, .int p0, .int q0, .int p1, .int q1, .int kp, .ref m5, .ref m6, .int (nI k), .int (nI sk), .int (nI tr), .int (nI co), .long ma, .long mc, .int mt, .int (nI b)]))] := hD
    refine lv_aload_n hx hb dX8_feed_20 rfl (lv_at hl 0 rfl) ?_
    refine va_get (D := (dC, dI)) (ci := 7) (v := .int 1) (C := RX8) (T := TX8) (N := 31) hx hb hts hiX8 hown hK hP 0 rfl rfl 0 (by decide) (hts (.fieldLink RX8 48 "RefineRegionsModel" "thrown" "I") (by decide +kernel)) (fun _ h9 => h9) rfl dX8_feed_21 ?_
    refine lv_if_le (tgt := 29) hx hb dX8_feed_24 (by decide) (fun c9 => absurd c9 (by decide)) (fun _ => ?_)
    refine lv_iconst (v := 0) hx hb dX8_feed_27 (by decide) ?_
    have hP9 := hP
    have hD9 := hD
    exact W.iret (v := 0) hx hb hr (fun t ht hW => ⟨⟨0, (), rfl, rfl, by rw [ht]; exact hP9, va_K.moved hW.alike hK, hD9⟩, hS.F ht⟩) hS.2.2 dX8_feed_28
  · refine lv_iload_n hx hb dX8_feed_6 rfl (lv_at hl 1 rfl) ?_
    refine lv_bipush (v := 8) hx hb dX8_feed_7 (by decide) ?_
    refine lv_icmp_le (tgt := 16) hx hb dX8_feed_9 (by decide) (fun c_9 => absurd c_9 (fun h9 => sp_iw_f hno c_3 (Int32.not_lt.mpr h9))) (fun c_9 => ?_)
    refine lv_iconst (v := 1) hx hb dX8_feed_12 (by decide) ?_
    refine lv_goto (tgt := 17) hx hb dX8_feed_13 (by decide) ?_
    refine va_put (D := (dC, dI)) (ci := 7) (v := .int 1) (ty := .int) (C := RX8) (T := TX8) (N := 31) hx hb hts hiX8 tyX8 tyX8_ok nmX8 hown hK hP hD hS 0 rfl rfl 0 (by decide) (hts (.fieldLink RX8 48 "RefineRegionsModel" "thrown" "I") (by decide +kernel)) (fun _ h9 => h9) rfl (by decide +kernel) rfl rfl (Nat.le_of_ble_eq_true rfl) dX8_feed_17 (fun H locs hP hD hS => ?_)
    have hP : va_P (dC, dI) vwCl [(m0, .inr (7, [.int 1, .ref m1, .int (nI w), .int (nI h), .int tp, .int ty, .ref m2, .ref m3, .int sf, .int rdg, .int rt, .int (nI rwd), .int (nI rht), .ref m4, .int dx, .int dy, .int p0, .int q0, .int p1, .int q1, .int kp, .ref m5, .ref m6, .int (nI k), .int (nI sk), .int (nI tr), .int (nI co), .long ma, .long mc, .int mt, .int (nI b)]))] H := hP
    have hD : va_D A [(m0, .inr (7, [.int 1, .ref m1, .int (nI w), .int (nI h), .int tp, .int ty, .ref m2, .ref m3, .int sf, .int rdg, .int rt, .int (nI rwd), .int (nI rht), .ref m4, .int dx, .int dy, .int p0, .int q0, .int p1, .int q1, .int kp, .ref m5, .ref m6, .int (nI k), .int (nI sk), .int (nI tr), .int (nI co), .long ma, .long mc, .int mt, .int (nI b)]))] := hD
    refine lv_aload_n hx hb dX8_feed_20 rfl (lv_at hl 0 rfl) ?_
    refine va_get (D := (dC, dI)) (ci := 7) (v := .int 1) (C := RX8) (T := TX8) (N := 31) hx hb hts hiX8 hown hK hP 0 rfl rfl 0 (by decide) (hts (.fieldLink RX8 48 "RefineRegionsModel" "thrown" "I") (by decide +kernel)) (fun _ h9 => h9) rfl dX8_feed_21 ?_
    refine lv_if_le (tgt := 29) hx hb dX8_feed_24 (by decide) (fun c9 => absurd c9 (by decide)) (fun _ => ?_)
    refine lv_iconst (v := 0) hx hb dX8_feed_27 (by decide) ?_
    have hP9 := hP
    have hD9 := hD
    exact W.iret (v := 0) hx hb hr (fun t ht hW => ⟨⟨0, (), rfl, rfl, by rw [ht]; exact hP9, va_K.moved hW.alike hK, hD9⟩, hS.F ht⟩) hS.2.2 dX8_feed_28

set_option maxHeartbeats 4000000 in
set_option maxRecDepth 100000 in
/-- feed(n, v), no room -/
theorem c_X8_feed_full (l : Launch) (dC : Nat → ClassId) (dI : Nat → Nat → Nat) (cI cZ cJ : ClassId) (m0 : Nat) (m1 : Nat) (m2 : Nat) (m3 : Nat) (m4 : Nat) (m5 : Nat) (m6 : Nat) (th : Int32) (tp : Int32) (ty : Int32) (sf : Int32) (rdg : Int32) (rt : Int32) (dx : Int32) (dy : Int32) (p0 : Int32) (q0 : Int32) (p1 : Int32) (q1 : Int32) (kp : Int32) (w : Nat) (h : Nat) (rwd : Nat) (rht : Nat) (k : Nat) (sk : Nat) (tr : Nat) (co : Nat) (b : Nat) (ma : Int64) (mc : Int64) (mt : Int32) (n : Nat) (v : Int64) (hn1 : 1 ≤ n ∧ n ≤ 8) (hk0 : k ≤ 4096) (hno : 4096 - k < n) (sz : Nat) : Met l yX8_feed wsX8_feed ({ frames := 0, cells := 0, slots := 0, locals := 0 }) (hw_Pre (dC, dI) vwCl (ty3 cI cZ cJ) [(m0, .inr (7, [.int th, .ref m1, .int (nI w), .int (nI h), .int tp, .int ty, .ref m2, .ref m3, .int sf, .int rdg, .int rt, .int (nI rwd), .int (nI rht), .ref m4, .int dx, .int dy, .int p0, .int q0, .int p1, .int q1, .int kp, .ref m5, .ref m6, .int (nI k), .int (nI sk), .int (nI tr), .int (nI co), .long ma, .long mc, .int mt, .int (nI b)]))] sz [.ref m0, .int (nI n), .long v]) (va_Qi (fun (r : Int32) (_ : Unit) => r = (-1)) (hw_at (dC, dI) vwCl (ty3 cI cZ cJ) (fun _ : Unit => [(m0, .inr (7, [.int 0, .ref m1, .int (nI w), .int (nI h), .int tp, .int ty, .ref m2, .ref m3, .int sf, .int rdg, .int rt, .int (nI rwd), .int (nI rht), .ref m4, .int dx, .int dy, .int p0, .int q0, .int p1, .int q1, .int kp, .ref m5, .ref m6, .int (nI k), .int (nI sk), .int (nI tr), .int (nI co), .long ma, .long mc, .int mt, .int (nI b)]))]) (va_A [(m0, .inr (7, [.int th, .ref m1, .int (nI w), .int (nI h), .int tp, .int ty, .ref m2, .ref m3, .int sf, .int rdg, .int rt, .int (nI rwd), .int (nI rht), .ref m4, .int dx, .int dy, .int p0, .int q0, .int p1, .int q1, .int kp, .ref m5, .ref m6, .int (nI k), .int (nI sk), .int (nI tr), .int (nI co), .long ma, .long mc, .int mt, .int (nI b)]))] sz)) (va_A [(m0, .inr (7, [.int th, .ref m1, .int (nI w), .int (nI h), .int tp, .int ty, .ref m2, .ref m3, .int sf, .int rdg, .int rt, .int (nI rwd), .int (nI rht), .ref m4, .int dx, .int dy, .int p0, .int q0, .int p1, .int q1, .int kp, .ref m5, .ref m6, .int (nI k), .int (nI sk), .int (nI tr), .int (nI co), .long ma, .long mc, .int mt, .int (nI b)]))] sz)) 0 0 (va_A [(m0, .inr (7, [.int th, .ref m1, .int (nI w), .int (nI h), .int tp, .int ty, .ref m2, .ref m3, .int sf, .int rdg, .int rt, .int (nI rwd), .int (nI rht), .ref m4, .int dx, .int dy, .int p0, .int q0, .int p1, .int q1, .int kp, .ref m5, .ref m6, .int (nI k), .int (nI sk), .int (nI tr), .int (nI co), .long ma, .long mc, .int mt, .int (nI b)]))] sz) := by
  refine Met.ofW (cc := cX8_feed) (maxL := 5) (ret := (some .int)) (by decide) rfl ?_
  intro pg ev s m args below meth cd s₁ B hml hv
  obtain ⟨rfl, hsz, hP, hK, hN, hZ, hD0⟩ := hv
  have hx := B.exec
  have hb := B.bytes
  have hr := B.returns
  have hts := atoms_spec (ws := wsX8_feed) B.pre
  have hown : s.vm.findClass RX8 = some m.cls := findClass_of_methodNamed B.named
  have hlocks := B.notSynchronized
  subst hsz
  have hD := hD0.self (sz := s.heap.size)
  generalize hAe : va_A [(m0, .inr (7, [.int th, .ref m1, .int (nI w), .int (nI h), .int tp, .int ty, .ref m2, .ref m3, .int sf, .int rdg, .int rt, .int (nI rwd), .int (nI rht), .ref m4, .int dx, .int dy, .int p0, .int q0, .int p1, .int q1, .int kp, .ref m5, .ref m6, .int (nI k), .int (nI sk), .int (nI tr), .int (nI co), .long ma, .long mc, .int mt, .int (nI b)]))] s.heap.size = A at hD hZ ⊢
  have hA : ∀ q : Nat, s.heap.size ≤ q → A q := fun q h => by rw [← hAe]; exact Or.inr h
  have hS : va_S A s.heap s.heap [] := va_S.rf
  have hk : hw_K (dC, dI) vwCl (ty3 cI cZ cJ) A s := ⟨hK, hN, hZ⟩
  have hiX8 : ∀ w ∈ u_ws RX8 TX8 31, w ∈ wsX8_feed := by decide +kernel
  have hl := lv_entry ([.ref m0, .int (nI n), .long v]) (n := 5) (Nat.le_of_ble_eq_true rfl)
  rw [lg_entry_eq]
  generalize (lg_sl ([.ref m0, .int (nI n), .long v]) ++ List.replicate (5 - (lg_sl ([.ref m0, .int (nI n), .long v])).length) Slot.unset).toArray = ls at hl ⊢
  have hl : lv_has ls 5 [(0, .ref m0), (1, .int (nI n)), (2, .long v)] := hl
  refine lv_aload_n hx hb dX8_feed_0 rfl (lv_at hl 0 rfl) ?_
  refine lv_iload_n hx hb dX8_feed_1 rfl (lv_at hl 1 rfl) ?_
  refine lv_iconst (v := 1) hx hb dX8_feed_2 (by decide) ?_
  refine lv_icmp_lt (tgt := 12) hx hb dX8_feed_3 (by decide) (fun c_3 => absurd c_3 (nI_nlt hn1.1 (by omega))) (fun c_3 => ?_)
  refine lv_iload_n hx hb dX8_feed_6 rfl (lv_at hl 1 rfl) ?_
  refine lv_bipush (v := 8) hx hb dX8_feed_7 (by decide) ?_
  refine lv_icmp_le (tgt := 16) hx hb dX8_feed_9 (by decide) (fun c_9 => ?_) (fun c_9 => absurd (nI_le hn1.2 (by decide)) c_9)
  refine lv_iconst (v := 0) hx hb dX8_feed_16 (by decide) ?_
  refine va_put (D := (dC, dI)) (ci := 7) (v := .int 0) (ty := .int) (C := RX8) (T := TX8) (N := 31) hx hb hts hiX8 tyX8 tyX8_ok nmX8 hown hK hP hD hS 0 rfl rfl 0 (by decide) (hts (.fieldLink RX8 48 "RefineRegionsModel" "thrown" "I") (by decide +kernel)) (fun _ h9 => h9) rfl (by decide +kernel) rfl rfl (Nat.le_of_ble_eq_true rfl) dX8_feed_17 (fun H locs hP hD hS => ?_)
  have hP : va_P (dC, dI) vwCl [(m0, .inr (7, [.int 0, .ref m1, .int (nI w), .int (nI h), .int tp, .int ty, .ref m2, .ref m3, .int sf, .int rdg, .int rt, .int (nI rwd), .int (nI rht), .ref m4, .int dx, .int dy, .int p0, .int q0, .int p1, .int q1, .int kp, .ref m5, .ref m6, .int (nI k), .int (nI sk), .int (nI tr), .int (nI co), .long ma, .long mc, .int mt, .int (nI b)]))] H := hP
  have hD : va_D A [(m0, .inr (7, [.int 0, .ref m1, .int (nI w), .int (nI h), .int tp, .int ty, .ref m2, .ref m3, .int sf, .int rdg, .int rt, .int (nI rwd), .int (nI rht), .ref m4, .int dx, .int dy, .int p0, .int q0, .int p1, .int q1, .int kp, .ref m5, .ref m6, .int (nI k), .int (nI sk), .int (nI tr), .int (nI co), .long ma, .long mc, .int mt, .int (nI b)]))] := hD
  refine lv_aload_n hx hb dX8_feed_20 rfl (lv_at hl 0 rfl) ?_
  refine va_get (D := (dC, dI)) (ci := 7) (v := .int 0) (C := RX8) (T := TX8) (N := 31) hx hb hts hiX8 hown hK hP 0 rfl rfl 0 (by decide) (hts (.fieldLink RX8 48 "RefineRegionsModel" "thrown" "I") (by decide +kernel)) (fun _ h9 => h9) rfl dX8_feed_21 ?_
  refine lv_if_le (tgt := 29) hx hb dX8_feed_24 (by decide) (fun _ => ?_) (fun c9 => absurd (by decide) c9)
  refine lv_aload_n hx hb dX8_feed_29 rfl (lv_at hl 0 rfl) ?_
  refine va_get (D := (dC, dI)) (ci := 7) (v := .int (nI k)) (C := RX8) (T := TX8) (N := 31) hx hb hts hiX8 hown hK hP 0 rfl rfl 23 (by decide) (hts (.fieldLink RX8 100 "RefineRegionsModel" "many" "I") (by decide +kernel)) (fun _ h9 => h9) rfl dX8_feed_30 ?_
  refine lv_iload_n hx hb dX8_feed_33 rfl (lv_at hl 1 rfl) ?_
  refine lv_iadd hx hb dX8_feed_34 ?_
  refine hw_i (y := nI (k + n)) (nI_add _ _) ?_
  refine lv_sipush (v := 4096) hx hb dX8_feed_35 (by decide) ?_
  refine lv_icmp_le (tgt := 43) hx hb dX8_feed_38 (by decide) (fun c_38 => absurd c_38 (fun h9 => by rw [show (4096 : Int32) = nI 4096 from rfl, nI_leI (by omega) (by omega)] at h9; omega)) (fun c_38 => ?_)
  refine lv_iconst (v := (-1)) hx hb dX8_feed_41 (by decide) ?_
  have hP9 := hP
  have hD9 := hD
  exact W.iret (v := (-1)) hx hb hr (fun t ht hW => ⟨⟨(-1), (), rfl, rfl, by rw [ht]; exact hP9, va_K.moved hW.alike hK, hD9⟩, hS.F ht⟩) hS.2.2 dX8_feed_42

set_option maxHeartbeats 4000000 in
set_option maxRecDepth 100000 in
/-- feed(n, v), with room -/
theorem c_X8_feed (l : Launch) (dC : Nat → ClassId) (dI : Nat → Nat → Nat) (cI cZ cJ : ClassId) (m0 : Nat) (m1 : Nat) (m2 : Nat) (m3 : Nat) (m4 : Nat) (m5 : Nat) (m6 : Nat) (th : Int32) (tp : Int32) (ty : Int32) (sf : Int32) (rdg : Int32) (rt : Int32) (dx : Int32) (dy : Int32) (p0 : Int32) (q0 : Int32) (p1 : Int32) (q1 : Int32) (kp : Int32) (w : Nat) (h : Nat) (rwd : Nat) (rht : Nat) (k : Nat) (sk : Nat) (tr : Nat) (co : Nat) (b : Nat) (ma : Int64) (mc : Int64) (mt : Int32) (f : Nat → Int32) (n : Nat) (v : Int64) (hn1 : 1 ≤ n ∧ n ≤ 8) (hk0 : k + n ≤ 4096) (sz : Nat) : Met l yX8_feed wsX8_feed ({ frames := 1, cells := 0, slots := 0, locals := 22 }) (hw_Pre (dC, dI) vwCl (ty3 cI cZ cJ) [(m0, .inr (7, [.int th, .ref m1, .int (nI w), .int (nI h), .int tp, .int ty, .ref m2, .ref m3, .int sf, .int rdg, .int rt, .int (nI rwd), .int (nI rht), .ref m4, .int dx, .int dy, .int p0, .int q0, .int p1, .int q1, .int kp, .ref m5, .ref m6, .int (nI k), .int (nI sk), .int (nI tr), .int (nI co), .long ma, .long mc, .int mt, .int (nI b)])), (m6, .inl (cI, 4200, .inl f))] sz [.ref m0, .int (nI n), .long v]) (va_Qi (fun (r : Int32) (_ : Unit) => r = nI (k + n)) (hw_at (dC, dI) vwCl (ty3 cI cZ cJ) (fun _ : Unit => [(m0, .inr (7, [.int 0, .ref m1, .int (nI w), .int (nI h), .int tp, .int ty, .ref m2, .ref m3, .int sf, .int rdg, .int rt, .int (nI rwd), .int (nI rht), .ref m4, .int dx, .int dy, .int p0, .int q0, .int p1, .int q1, .int kp, .ref m5, .ref m6, .int (nI (k + n)), .int (nI sk), .int (nI tr), .int (nI co), .long ma, .long mc, .int mt, .int (nI b)])), (m6, .inl (cI, 4200, .inl (sp_fed v k f n)))]) (va_A [(m0, .inr (7, [.int th, .ref m1, .int (nI w), .int (nI h), .int tp, .int ty, .ref m2, .ref m3, .int sf, .int rdg, .int rt, .int (nI rwd), .int (nI rht), .ref m4, .int dx, .int dy, .int p0, .int q0, .int p1, .int q1, .int kp, .ref m5, .ref m6, .int (nI k), .int (nI sk), .int (nI tr), .int (nI co), .long ma, .long mc, .int mt, .int (nI b)])), (m6, .inl (cI, 4200, .inl f))] sz)) (va_A [(m0, .inr (7, [.int th, .ref m1, .int (nI w), .int (nI h), .int tp, .int ty, .ref m2, .ref m3, .int sf, .int rdg, .int rt, .int (nI rwd), .int (nI rht), .ref m4, .int dx, .int dy, .int p0, .int q0, .int p1, .int q1, .int kp, .ref m5, .ref m6, .int (nI k), .int (nI sk), .int (nI tr), .int (nI co), .long ma, .long mc, .int mt, .int (nI b)])), (m6, .inl (cI, 4200, .inl f))] sz)) 0 0 (va_A [(m0, .inr (7, [.int th, .ref m1, .int (nI w), .int (nI h), .int tp, .int ty, .ref m2, .ref m3, .int sf, .int rdg, .int rt, .int (nI rwd), .int (nI rht), .ref m4, .int dx, .int dy, .int p0, .int q0, .int p1, .int q1, .int kp, .ref m5, .ref m6, .int (nI k), .int (nI sk), .int (nI tr), .int (nI co), .long ma, .long mc, .int mt, .int (nI b)])), (m6, .inl (cI, 4200, .inl f))] sz) := by
  refine Met.ofW (cc := cX8_feed) (maxL := 5) (ret := (some .int)) (by decide) rfl ?_
  intro pg ev s m args below meth cd s₁ B hml hv
  obtain ⟨rfl, hsz, hP, hK, hN, hZ, hD0⟩ := hv
  have hx := B.exec
  have hb := B.bytes
  have hr := B.returns
  have hts := atoms_spec (ws := wsX8_feed) B.pre
  have hown : s.vm.findClass RX8 = some m.cls := findClass_of_methodNamed B.named
  have hlocks := B.notSynchronized
  subst hsz
  have hD := hD0.self (sz := s.heap.size)
  generalize hAe : va_A [(m0, .inr (7, [.int th, .ref m1, .int (nI w), .int (nI h), .int tp, .int ty, .ref m2, .ref m3, .int sf, .int rdg, .int rt, .int (nI rwd), .int (nI rht), .ref m4, .int dx, .int dy, .int p0, .int q0, .int p1, .int q1, .int kp, .ref m5, .ref m6, .int (nI k), .int (nI sk), .int (nI tr), .int (nI co), .long ma, .long mc, .int mt, .int (nI b)])), (m6, .inl (cI, 4200, .inl f))] s.heap.size = A at hD hZ ⊢
  have hA : ∀ q : Nat, s.heap.size ≤ q → A q := fun q h => by rw [← hAe]; exact Or.inr h
  have hS : va_S A s.heap s.heap [] := va_S.rf
  have hk : hw_K (dC, dI) vwCl (ty3 cI cZ cJ) A s := ⟨hK, hN, hZ⟩
  have hiX8 : ∀ w ∈ u_ws RX8 TX8 31, w ∈ wsX8_feed := by decide +kernel
  have hl := lv_entry ([.ref m0, .int (nI n), .long v]) (n := 5) (Nat.le_of_ble_eq_true rfl)
  rw [lg_entry_eq]
  generalize (lg_sl ([.ref m0, .int (nI n), .long v]) ++ List.replicate (5 - (lg_sl ([.ref m0, .int (nI n), .long v])).length) Slot.unset).toArray = ls at hl ⊢
  have hl : lv_has ls 5 [(0, .ref m0), (1, .int (nI n)), (2, .long v)] := hl
  refine lv_aload_n hx hb dX8_feed_0 rfl (lv_at hl 0 rfl) ?_
  refine lv_iload_n hx hb dX8_feed_1 rfl (lv_at hl 1 rfl) ?_
  refine lv_iconst (v := 1) hx hb dX8_feed_2 (by decide) ?_
  refine lv_icmp_lt (tgt := 12) hx hb dX8_feed_3 (by decide) (fun c_3 => absurd c_3 (nI_nlt hn1.1 (by omega))) (fun c_3 => ?_)
  refine lv_iload_n hx hb dX8_feed_6 rfl (lv_at hl 1 rfl) ?_
  refine lv_bipush (v := 8) hx hb dX8_feed_7 (by decide) ?_
  refine lv_icmp_le (tgt := 16) hx hb dX8_feed_9 (by decide) (fun c_9 => ?_) (fun c_9 => absurd (nI_le hn1.2 (by decide)) c_9)
  refine lv_iconst (v := 0) hx hb dX8_feed_16 (by decide) ?_
  refine va_put (D := (dC, dI)) (ci := 7) (v := .int 0) (ty := .int) (C := RX8) (T := TX8) (N := 31) hx hb hts hiX8 tyX8 tyX8_ok nmX8 hown hK hP hD hS 0 rfl rfl 0 (by decide) (hts (.fieldLink RX8 48 "RefineRegionsModel" "thrown" "I") (by decide +kernel)) (fun _ h9 => h9) rfl (by decide +kernel) rfl rfl (Nat.le_of_ble_eq_true rfl) dX8_feed_17 (fun H locs hP hD hS => ?_)
  have hP : va_P (dC, dI) vwCl [(m0, .inr (7, [.int 0, .ref m1, .int (nI w), .int (nI h), .int tp, .int ty, .ref m2, .ref m3, .int sf, .int rdg, .int rt, .int (nI rwd), .int (nI rht), .ref m4, .int dx, .int dy, .int p0, .int q0, .int p1, .int q1, .int kp, .ref m5, .ref m6, .int (nI k), .int (nI sk), .int (nI tr), .int (nI co), .long ma, .long mc, .int mt, .int (nI b)])), (m6, .inl (cI, 4200, .inl f))] H := hP
  have hD : va_D A [(m0, .inr (7, [.int 0, .ref m1, .int (nI w), .int (nI h), .int tp, .int ty, .ref m2, .ref m3, .int sf, .int rdg, .int rt, .int (nI rwd), .int (nI rht), .ref m4, .int dx, .int dy, .int p0, .int q0, .int p1, .int q1, .int kp, .ref m5, .ref m6, .int (nI k), .int (nI sk), .int (nI tr), .int (nI co), .long ma, .long mc, .int mt, .int (nI b)])), (m6, .inl (cI, 4200, .inl f))] := hD
  refine lv_aload_n hx hb dX8_feed_20 rfl (lv_at hl 0 rfl) ?_
  refine va_get (D := (dC, dI)) (ci := 7) (v := .int 0) (C := RX8) (T := TX8) (N := 31) hx hb hts hiX8 hown hK hP 0 rfl rfl 0 (by decide) (hts (.fieldLink RX8 48 "RefineRegionsModel" "thrown" "I") (by decide +kernel)) (fun _ h9 => h9) rfl dX8_feed_21 ?_
  refine lv_if_le (tgt := 29) hx hb dX8_feed_24 (by decide) (fun _ => ?_) (fun c9 => absurd (by decide) c9)
  refine lv_aload_n hx hb dX8_feed_29 rfl (lv_at hl 0 rfl) ?_
  refine va_get (D := (dC, dI)) (ci := 7) (v := .int (nI k)) (C := RX8) (T := TX8) (N := 31) hx hb hts hiX8 hown hK hP 0 rfl rfl 23 (by decide) (hts (.fieldLink RX8 100 "RefineRegionsModel" "many" "I") (by decide +kernel)) (fun _ h9 => h9) rfl dX8_feed_30 ?_
  refine lv_iload_n hx hb dX8_feed_33 rfl (lv_at hl 1 rfl) ?_
  refine lv_iadd hx hb dX8_feed_34 ?_
  refine hw_i (y := nI (k + n)) (nI_add _ _) ?_
  refine lv_sipush (v := 4096) hx hb dX8_feed_35 (by decide) ?_
  refine lv_icmp_le (tgt := 43) hx hb dX8_feed_38 (by decide) (fun c_38 => ?_) (fun c_38 => absurd (by rw [show (4096 : Int32) = nI 4096 from rfl, nI_leI (by omega) (by omega)]; omega) c_38)
  refine lv_iconst (v := 0) hx hb dX8_feed_43 (by decide) ?_
  refine lv_istore (lv' := [(4, .int 0), (0, .ref m0), (1, .int (nI n)), (2, .long v)]) hx hb dX8_feed_44 hl (by decide) rfl (fun ls hl => ?_)
  have loop_46 : ∀ (fu : Nat) (i : Nat), (i ≤ n) → (n - i < fu) → ∀ (H : Heap) (locs : List Loc), va_P (dC, dI) vwCl [(m0, .inr (7, [.int 0, .ref m1, .int (nI w), .int (nI h), .int tp, .int ty, .ref m2, .ref m3, .int sf, .int rdg, .int rt, .int (nI rwd), .int (nI rht), .ref m4, .int dx, .int dy, .int p0, .int q0, .int p1, .int q1, .int kp, .ref m5, .ref m6, .int (nI (k + i)), .int (nI sk), .int (nI tr), .int (nI co), .long ma, .long mc, .int mt, .int (nI b)])), (m6, .inl (cI, 4200, .inl (sp_fed v k f i)))] H → va_D A [(m0, .inr (7, [.int 0, .ref m1, .int (nI w), .int (nI h), .int tp, .int ty, .ref m2, .ref m3, .int sf, .int rdg, .int rt, .int (nI rwd), .int (nI rht), .ref m4, .int dx, .int dy, .int p0, .int q0, .int p1, .int q1, .int kp, .ref m5, .ref m6, .int (nI (k + i)), .int (nI sk), .int (nI tr), .int (nI co), .long ma, .long mc, .int mt, .int (nI b)])), (m6, .inl (cI, 4200, .inl (sp_fed v k f i)))] → va_S A s.heap H locs → ∀ ls : Array Slot, lv_has ls 5 [(4, .int (nI i)), (0, .ref m0), (1, .int (nI n)), (2, .long v)] → W pg l ev (headSpec wsX8_feed ({ frames := 1, cells := 0, slots := 0, locals := 22 })).room s m ([.ref m0, .int (nI n), .long v]).toArray below meth cd H locs 0 0 (MQ below (va_Qi (fun (r : Int32) (_ : Unit) => r = nI (k + n)) (hw_at (dC, dI) vwCl (ty3 cI cZ cJ) (fun _ : Unit => [(m0, .inr (7, [.int 0, .ref m1, .int (nI w), .int (nI h), .int tp, .int ty, .ref m2, .ref m3, .int sf, .int rdg, .int rt, .int (nI rwd), .int (nI rht), .ref m4, .int dx, .int dy, .int p0, .int q0, .int p1, .int q1, .int kp, .ref m5, .ref m6, .int (nI (k + n)), .int (nI sk), .int (nI tr), .int (nI co), .long ma, .long mc, .int mt, .int (nI b)])), (m6, .inl (cI, 4200, .inl (sp_fed v k f n)))]) A) A) ([.ref m0, .int (nI n), .long v]).toArray s 0 0 A) (F0 m 46 ls []) := by
    intro fu
    induction fu with
    | zero =>
      intro i hi hm
      omega
    | succ fu ih_46 =>
      intro i hi hm H locs hP hD hS ls hl
      refine lv_iload hx hb dX8_feed_46 (lv_at hl 0 rfl) ?_
      refine lv_iload_n hx hb dX8_feed_48 rfl (lv_at hl 2 rfl) ?_
      refine lv_icmp_ge (tgt := 73) hx hb dX8_feed_49 (by decide) (fun c_49 => ?_) (fun c_49 => ?_)
      · have hi9 : i = n := by rw [nI_leI (by omega) (by omega)] at c_49; omega
        rw [hi9] at hl hP hD
        refine lv_aload_n hx hb dX8_feed_73 rfl (lv_at hl 1 rfl) ?_
        refine va_get (D := (dC, dI)) (ci := 7) (v := .int (nI (k + n))) (C := RX8) (T := TX8) (N := 31) hx hb hts hiX8 hown hK hP 0 rfl rfl 23 (by decide) (hts (.fieldLink RX8 100 "RefineRegionsModel" "many" "I") (by decide +kernel)) (fun _ h9 => h9) rfl dX8_feed_74 ?_
        have hP9 := hP
        have hD9 := hD
        exact W.iret (v := nI (k + n)) hx hb hr (fun t ht hW => ⟨⟨nI (k + n), (), rfl, rfl, by rw [ht]; exact hP9, va_K.moved hW.alike hK, hD9⟩, hS.F ht⟩) hS.2.2 dX8_feed_77
      · have hi9 : i < n := by rw [nI_leI (by omega) (by omega)] at c_49; omega
        refine lv_aload_n hx hb dX8_feed_52 rfl (lv_at hl 1 rfl) ?_
        refine lv_lload_n hx hb dX8_feed_53 rfl (lv_at hl 3 rfl) ?_
        refine lv_bipush (v := 8) hx hb dX8_feed_54 (by decide) ?_
        refine lv_iload hx hb dX8_feed_56 (lv_at hl 0 rfl) ?_
        refine lv_imul hx hb dX8_feed_58 ?_
        refine lv_lshr (v := v >>> ((8 * (nI i)).toInt64 &&& 63)) hx hb dX8_feed_59 rfl ?_
        refine lv_ldc2 (v := 255) hx hb hown (hts (.constantLong RX8 146 (255)) (by decide +kernel)) dX8_feed_60 ?_
        refine lv_land hx hb dX8_feed_63 ?_
        refine hw_callv (wr := []) (w2 := fun _ : Unit => [(m0, .inr (7, [.int 0, .ref m1, .int (nI w), .int (nI h), .int tp, .int ty, .ref m2, .ref m3, .int sf, .int rdg, .int rt, .int (nI rwd), .int (nI rht), .ref m4, .int dx, .int dy, .int p0, .int q0, .int p1, .int q1, .int kp, .ref m5, .ref m6, .int (nI ((k + i) + 1)), .int (nI sk), .int (nI tr), .int (nI co), .long ma, .long mc, .int mt, .int (nI b)])), (m6, .inl (cI, 4200, .inl (upd (sp_fed v k f i) (k + i) ((v >>> ((8 * (nI i)).toInt64 &&& 63)) &&& 255).toInt32)))]) (va_runV (As := [.long ((v >>> ((8 * (nI i)).toInt64 &&& 63)) &&& 255)]) (rest := []) ⟨hx, hb, hml, hown, hts⟩ (c_X8_out l dC dI cI cZ cJ m0 m1 m2 m3 m4 m5 m6 0 tp ty sf rdg rt dx dy p0 q0 p1 q1 kp w h rwd rht (k + i) sk tr co b ma mc mt (sp_fed v k f i) ((v >>> ((8 * (nI i)).toInt64 &&& 63)) &&& 255) (by omega) H.size) (cwV 1 hts gX8_feed_X8_out rfl rfl rfl (by decide +kernel) ⟨Nat.le_of_ble_eq_true rfl, Nat.le_of_ble_eq_true rfl⟩) (hw_preV hP hD hS hA hk [0, 1] (by decide) rfl (ci := 7) (q0 := 0) rfl rfl) rfl rfl hl.1 rfl (lv_room (Nat.le_of_ble_eq_true rfl)) dX8_feed_64 ⟨Nat.le_of_ble_eq_true rfl, Nat.le_of_ble_eq_true rfl⟩) hP hD hS hA [0, 1] [] [0, 1] rfl rfl (by decide) (by decide) (by decide) (fun _ => rfl) (fun u_64 H locs hw hP hD hS => ?_)
        have hP : va_P (dC, dI) vwCl [(m0, .inr (7, [.int 0, .ref m1, .int (nI w), .int (nI h), .int tp, .int ty, .ref m2, .ref m3, .int sf, .int rdg, .int rt, .int (nI rwd), .int (nI rht), .ref m4, .int dx, .int dy, .int p0, .int q0, .int p1, .int q1, .int kp, .ref m5, .ref m6, .int (nI ((k + i) + 1)), .int (nI sk), .int (nI tr), .int (nI co), .long ma, .long mc, .int mt, .int (nI b)])), (m6, .inl (cI, 4200, .inl (upd (sp_fed v k f i) (k + i) ((v >>> ((8 * (nI i)).toInt64 &&& 63)) &&& 255).toInt32)))] H := hP
        have hD : va_D A [(m0, .inr (7, [.int 0, .ref m1, .int (nI w), .int (nI h), .int tp, .int ty, .ref m2, .ref m3, .int sf, .int rdg, .int rt, .int (nI rwd), .int (nI rht), .ref m4, .int dx, .int dy, .int p0, .int q0, .int p1, .int q1, .int kp, .ref m5, .ref m6, .int (nI ((k + i) + 1)), .int (nI sk), .int (nI tr), .int (nI co), .long ma, .long mc, .int mt, .int (nI b)])), (m6, .inl (cI, 4200, .inl (upd (sp_fed v k f i) (k + i) ((v >>> ((8 * (nI i)).toInt64 &&& 63)) &&& 255).toInt32)))] := hD
        have eA : (upd (sp_fed v k f i) (k + i) ((v >>> ((8 * (nI i)).toInt64 &&& 63)) &&& 255).toInt32) = sp_fed v k f (i + 1) := by rw [sp_fb_ref (by omega)]; rfl
        rw [eA] at hP hD
        have hP : va_P (dC, dI) vwCl [(m0, .inr (7, [.int 0, .ref m1, .int (nI w), .int (nI h), .int tp, .int ty, .ref m2, .ref m3, .int sf, .int rdg, .int rt, .int (nI rwd), .int (nI rht), .ref m4, .int dx, .int dy, .int p0, .int q0, .int p1, .int q1, .int kp, .ref m5, .ref m6, .int (nI ((k + i) + 1)), .int (nI sk), .int (nI tr), .int (nI co), .long ma, .long mc, .int mt, .int (nI b)])), (m6, .inl (cI, 4200, .inl (sp_fed v k f (i + 1))))] H := hP
        have hD : va_D A [(m0, .inr (7, [.int 0, .ref m1, .int (nI w), .int (nI h), .int tp, .int ty, .ref m2, .ref m3, .int sf, .int rdg, .int rt, .int (nI rwd), .int (nI rht), .ref m4, .int dx, .int dy, .int p0, .int q0, .int p1, .int q1, .int kp, .ref m5, .ref m6, .int (nI ((k + i) + 1)), .int (nI sk), .int (nI tr), .int (nI co), .long ma, .long mc, .int mt, .int (nI b)])), (m6, .inl (cI, 4200, .inl (sp_fed v k f (i + 1))))] := hD
        refine lv_iinc (v := nI (i + 1)) (lv' := [(4, .int (nI (i + 1))), (0, .ref m0), (1, .int (nI n)), (2, .long v)]) hx hb dX8_feed_67 hl (k := 0) rfl (nI_1 i) (by decide) rfl (fun ls hl => ?_)
        refine lv_goto (tgt := 46) hx hb dX8_feed_70 (by decide) ?_
        exact ih_46 (i + 1) (by omega) (by omega) _ _ hP hD hS ls (lv_sub hl [0, 1, 2, 3] rfl)
  exact loop_46 (n + 1) 0 (Nat.zero_le _) (by omega) _ _ hP hD hS ls (lv_sub hl [0, 1, 2, 3] rfl)

set_option maxHeartbeats 4000000 in
set_option maxRecDepth 100000 in
/-- wipe -/
theorem c_X8_wipe (l : Launch) (dC : Nat → ClassId) (dI : Nat → Nat → Nat) (cI cZ cJ : ClassId) (m0 : Nat) (m1 : Nat) (m2 : Nat) (m3 : Nat) (m4 : Nat) (m5 : Nat) (m6 : Nat) (th : Int32) (tp : Int32) (ty : Int32) (sf : Int32) (rdg : Int32) (rt : Int32) (dx : Int32) (dy : Int32) (p0 : Int32) (q0 : Int32) (p1 : Int32) (q1 : Int32) (kp : Int32) (w : Nat) (h : Nat) (rwd : Nat) (rht : Nat) (k : Nat) (sk : Nat) (tr : Nat) (co : Nat) (b : Nat) (ma : Int64) (mc : Int64) (mt : Int32) (sz : Nat) : Met l yX8_wipe wsX8_wipe ({ frames := 0, cells := 0, slots := 0, locals := 0 }) (hw_Pre (dC, dI) vwCl (ty3 cI cZ cJ) [(m0, .inr (7, [.int th, .ref m1, .int (nI w), .int (nI h), .int tp, .int ty, .ref m2, .ref m3, .int sf, .int rdg, .int rt, .int (nI rwd), .int (nI rht), .ref m4, .int dx, .int dy, .int p0, .int q0, .int p1, .int q1, .int kp, .ref m5, .ref m6, .int (nI k), .int (nI sk), .int (nI tr), .int (nI co), .long ma, .long mc, .int mt, .int (nI b)]))] sz [.ref m0]) (va_Qi (fun (r : Int32) (_ : Unit) => r = nI k) (hw_at (dC, dI) vwCl (ty3 cI cZ cJ) (fun _ : Unit => [(m0, .inr (7, [.int 0, .ref m1, .int (nI w), .int (nI h), .int tp, .int ty, .ref m2, .ref m3, .int sf, .int rdg, .int rt, .int (nI rwd), .int (nI rht), .ref m4, .int dx, .int dy, .int p0, .int q0, .int p1, .int q1, .int kp, .ref m5, .ref m6, .int (nI 0), .int (nI sk), .int (nI tr), .int (nI co), .long ma, .long mc, .int mt, .int (nI b)]))]) (va_A [(m0, .inr (7, [.int th, .ref m1, .int (nI w), .int (nI h), .int tp, .int ty, .ref m2, .ref m3, .int sf, .int rdg, .int rt, .int (nI rwd), .int (nI rht), .ref m4, .int dx, .int dy, .int p0, .int q0, .int p1, .int q1, .int kp, .ref m5, .ref m6, .int (nI k), .int (nI sk), .int (nI tr), .int (nI co), .long ma, .long mc, .int mt, .int (nI b)]))] sz)) (va_A [(m0, .inr (7, [.int th, .ref m1, .int (nI w), .int (nI h), .int tp, .int ty, .ref m2, .ref m3, .int sf, .int rdg, .int rt, .int (nI rwd), .int (nI rht), .ref m4, .int dx, .int dy, .int p0, .int q0, .int p1, .int q1, .int kp, .ref m5, .ref m6, .int (nI k), .int (nI sk), .int (nI tr), .int (nI co), .long ma, .long mc, .int mt, .int (nI b)]))] sz)) 0 0 (va_A [(m0, .inr (7, [.int th, .ref m1, .int (nI w), .int (nI h), .int tp, .int ty, .ref m2, .ref m3, .int sf, .int rdg, .int rt, .int (nI rwd), .int (nI rht), .ref m4, .int dx, .int dy, .int p0, .int q0, .int p1, .int q1, .int kp, .ref m5, .ref m6, .int (nI k), .int (nI sk), .int (nI tr), .int (nI co), .long ma, .long mc, .int mt, .int (nI b)]))] sz) := by
  refine Met.ofW (cc := cX8_wipe) (maxL := 2) (ret := (some .int)) (by decide) rfl ?_
  intro pg ev s m args below meth cd s₁ B hml hv
  obtain ⟨rfl, hsz, hP, hK, hN, hZ, hD0⟩ := hv
  have hx := B.exec
  have hb := B.bytes
  have hr := B.returns
  have hts := atoms_spec (ws := wsX8_wipe) B.pre
  have hown : s.vm.findClass RX8 = some m.cls := findClass_of_methodNamed B.named
  have hlocks := B.notSynchronized
  subst hsz
  have hD := hD0.self (sz := s.heap.size)
  generalize hAe : va_A [(m0, .inr (7, [.int th, .ref m1, .int (nI w), .int (nI h), .int tp, .int ty, .ref m2, .ref m3, .int sf, .int rdg, .int rt, .int (nI rwd), .int (nI rht), .ref m4, .int dx, .int dy, .int p0, .int q0, .int p1, .int q1, .int kp, .ref m5, .ref m6, .int (nI k), .int (nI sk), .int (nI tr), .int (nI co), .long ma, .long mc, .int mt, .int (nI b)]))] s.heap.size = A at hD hZ ⊢
  have hA : ∀ q : Nat, s.heap.size ≤ q → A q := fun q h => by rw [← hAe]; exact Or.inr h
  have hS : va_S A s.heap s.heap [] := va_S.rf
  have hk : hw_K (dC, dI) vwCl (ty3 cI cZ cJ) A s := ⟨hK, hN, hZ⟩
  have hiX8 : ∀ w ∈ u_ws RX8 TX8 31, w ∈ wsX8_wipe := by decide +kernel
  have hl := lv_entry ([.ref m0]) (n := 2) (Nat.le_of_ble_eq_true rfl)
  rw [lg_entry_eq]
  generalize (lg_sl ([.ref m0]) ++ List.replicate (2 - (lg_sl ([.ref m0])).length) Slot.unset).toArray = ls at hl ⊢
  have hl : lv_has ls 2 [(0, .ref m0)] := hl
  refine lv_aload_n hx hb dX8_wipe_0 rfl (lv_at hl 0 rfl) ?_
  refine lv_iconst (v := 0) hx hb dX8_wipe_1 (by decide) ?_
  refine va_put (D := (dC, dI)) (ci := 7) (v := .int 0) (ty := .int) (C := RX8) (T := TX8) (N := 31) hx hb hts hiX8 tyX8 tyX8_ok nmX8 hown hK hP hD hS 0 rfl rfl 0 (by decide) (hts (.fieldLink RX8 48 "RefineRegionsModel" "thrown" "I") (by decide +kernel)) (fun _ h9 => h9) rfl (by decide +kernel) rfl rfl (Nat.le_of_ble_eq_true rfl) dX8_wipe_2 (fun H locs hP hD hS => ?_)
  have hP : va_P (dC, dI) vwCl [(m0, .inr (7, [.int 0, .ref m1, .int (nI w), .int (nI h), .int tp, .int ty, .ref m2, .ref m3, .int sf, .int rdg, .int rt, .int (nI rwd), .int (nI rht), .ref m4, .int dx, .int dy, .int p0, .int q0, .int p1, .int q1, .int kp, .ref m5, .ref m6, .int (nI k), .int (nI sk), .int (nI tr), .int (nI co), .long ma, .long mc, .int mt, .int (nI b)]))] H := hP
  have hD : va_D A [(m0, .inr (7, [.int 0, .ref m1, .int (nI w), .int (nI h), .int tp, .int ty, .ref m2, .ref m3, .int sf, .int rdg, .int rt, .int (nI rwd), .int (nI rht), .ref m4, .int dx, .int dy, .int p0, .int q0, .int p1, .int q1, .int kp, .ref m5, .ref m6, .int (nI k), .int (nI sk), .int (nI tr), .int (nI co), .long ma, .long mc, .int mt, .int (nI b)]))] := hD
  refine lv_aload_n hx hb dX8_wipe_5 rfl (lv_at hl 0 rfl) ?_
  refine va_get (D := (dC, dI)) (ci := 7) (v := .int (nI k)) (C := RX8) (T := TX8) (N := 31) hx hb hts hiX8 hown hK hP 0 rfl rfl 23 (by decide) (hts (.fieldLink RX8 100 "RefineRegionsModel" "many" "I") (by decide +kernel)) (fun _ h9 => h9) rfl dX8_wipe_6 ?_
  refine lv_istore_n (lv' := [(1, .int (nI k)), (0, .ref m0)]) hx hb dX8_wipe_9 rfl hl (by decide) rfl (fun ls hl => ?_)
  refine lv_aload_n hx hb dX8_wipe_10 rfl (lv_at hl 1 rfl) ?_
  refine lv_iconst (v := 0) hx hb dX8_wipe_11 (by decide) ?_
  refine va_put (D := (dC, dI)) (ci := 7) (v := .int 0) (ty := .int) (C := RX8) (T := TX8) (N := 31) hx hb hts hiX8 tyX8 tyX8_ok nmX8 hown hK hP hD hS 0 rfl rfl 23 (by decide) (hts (.fieldLink RX8 100 "RefineRegionsModel" "many" "I") (by decide +kernel)) (fun _ h9 => h9) rfl (by decide +kernel) rfl rfl (Nat.le_of_ble_eq_true rfl) dX8_wipe_12 (fun H locs hP hD hS => ?_)
  have hP : va_P (dC, dI) vwCl [(m0, .inr (7, [.int 0, .ref m1, .int (nI w), .int (nI h), .int tp, .int ty, .ref m2, .ref m3, .int sf, .int rdg, .int rt, .int (nI rwd), .int (nI rht), .ref m4, .int dx, .int dy, .int p0, .int q0, .int p1, .int q1, .int kp, .ref m5, .ref m6, .int 0, .int (nI sk), .int (nI tr), .int (nI co), .long ma, .long mc, .int mt, .int (nI b)]))] H := hP
  have hD : va_D A [(m0, .inr (7, [.int 0, .ref m1, .int (nI w), .int (nI h), .int tp, .int ty, .ref m2, .ref m3, .int sf, .int rdg, .int rt, .int (nI rwd), .int (nI rht), .ref m4, .int dx, .int dy, .int p0, .int q0, .int p1, .int q1, .int kp, .ref m5, .ref m6, .int 0, .int (nI sk), .int (nI tr), .int (nI co), .long ma, .long mc, .int mt, .int (nI b)]))] := hD
  refine lv_iload_n hx hb dX8_wipe_15 rfl (lv_at hl 0 rfl) ?_
  have hP9 := hP
  have hD9 := hD
  exact W.iret (v := nI k) hx hb hr (fun t ht hW => ⟨⟨nI k, (), rfl, rfl, by rw [ht]; exact hP9, va_K.moved hW.alike hK, hD9⟩, hS.F ht⟩) hS.2.2 dX8_wipe_16

set_option maxHeartbeats 4000000 in
set_option maxRecDepth 100000 in
/-- byteAt -/
theorem c_X8_byteAt (l : Launch) (dC : Nat → ClassId) (dI : Nat → Nat → Nat) (cI cZ cJ : ClassId) (m0 : Nat) (m1 : Nat) (m2 : Nat) (m3 : Nat) (m4 : Nat) (m5 : Nat) (m6 : Nat) (th : Int32) (tp : Int32) (ty : Int32) (sf : Int32) (rdg : Int32) (rt : Int32) (dx : Int32) (dy : Int32) (p0 : Int32) (q0 : Int32) (p1 : Int32) (q1 : Int32) (kp : Int32) (w : Nat) (h : Nat) (rwd : Nat) (rht : Nat) (k : Nat) (sk : Nat) (tr : Nat) (co : Nat) (b : Nat) (ma : Int64) (mc : Int64) (mt : Int32) (f : Nat → Int32) (x : Int32) (hk0 : k ≤ 4096) (sz : Nat) : Met l yX8_byteAt wsX8_byteAt ({ frames := 0, cells := 0, slots := 0, locals := 0 }) (hw_Pre (dC, dI) vwCl (ty3 cI cZ cJ) [(m0, .inr (7, [.int th, .ref m1, .int (nI w), .int (nI h), .int tp, .int ty, .ref m2, .ref m3, .int sf, .int rdg, .int rt, .int (nI rwd), .int (nI rht), .ref m4, .int dx, .int dy, .int p0, .int q0, .int p1, .int q1, .int kp, .ref m5, .ref m6, .int (nI k), .int (nI sk), .int (nI tr), .int (nI co), .long ma, .long mc, .int mt, .int (nI b)])), (m6, .inl (cI, 4200, .inl f))] sz [.ref m0, .int x]) (va_Qi (fun (r : Int32) (_ : Unit) => r = sp_vo k f x (-1)) (hw_at (dC, dI) vwCl (ty3 cI cZ cJ) (fun _ : Unit => [(m0, .inr (7, [.int 0, .ref m1, .int (nI w), .int (nI h), .int tp, .int ty, .ref m2, .ref m3, .int sf, .int rdg, .int rt, .int (nI rwd), .int (nI rht), .ref m4, .int dx, .int dy, .int p0, .int q0, .int p1, .int q1, .int kp, .ref m5, .ref m6, .int (nI k), .int (nI sk), .int (nI tr), .int (nI co), .long ma, .long mc, .int mt, .int (nI b)])), (m6, .inl (cI, 4200, .inl f))]) (va_A [(m0, .inr (7, [.int th, .ref m1, .int (nI w), .int (nI h), .int tp, .int ty, .ref m2, .ref m3, .int sf, .int rdg, .int rt, .int (nI rwd), .int (nI rht), .ref m4, .int dx, .int dy, .int p0, .int q0, .int p1, .int q1, .int kp, .ref m5, .ref m6, .int (nI k), .int (nI sk), .int (nI tr), .int (nI co), .long ma, .long mc, .int mt, .int (nI b)])), (m6, .inl (cI, 4200, .inl f))] sz)) (va_A [(m0, .inr (7, [.int th, .ref m1, .int (nI w), .int (nI h), .int tp, .int ty, .ref m2, .ref m3, .int sf, .int rdg, .int rt, .int (nI rwd), .int (nI rht), .ref m4, .int dx, .int dy, .int p0, .int q0, .int p1, .int q1, .int kp, .ref m5, .ref m6, .int (nI k), .int (nI sk), .int (nI tr), .int (nI co), .long ma, .long mc, .int mt, .int (nI b)])), (m6, .inl (cI, 4200, .inl f))] sz)) 0 0 (va_A [(m0, .inr (7, [.int th, .ref m1, .int (nI w), .int (nI h), .int tp, .int ty, .ref m2, .ref m3, .int sf, .int rdg, .int rt, .int (nI rwd), .int (nI rht), .ref m4, .int dx, .int dy, .int p0, .int q0, .int p1, .int q1, .int kp, .ref m5, .ref m6, .int (nI k), .int (nI sk), .int (nI tr), .int (nI co), .long ma, .long mc, .int mt, .int (nI b)])), (m6, .inl (cI, 4200, .inl f))] sz) := by
  refine Met.ofW (cc := cX8_byteAt) (maxL := 2) (ret := (some .int)) (by decide) rfl ?_
  intro pg ev s m args below meth cd s₁ B hml hv
  obtain ⟨rfl, hsz, hP, hK, hN, hZ, hD0⟩ := hv
  have hx := B.exec
  have hb := B.bytes
  have hr := B.returns
  have hts := atoms_spec (ws := wsX8_byteAt) B.pre
  have hown : s.vm.findClass RX8 = some m.cls := findClass_of_methodNamed B.named
  have hlocks := B.notSynchronized
  subst hsz
  have hD := hD0.self (sz := s.heap.size)
  generalize hAe : va_A [(m0, .inr (7, [.int th, .ref m1, .int (nI w), .int (nI h), .int tp, .int ty, .ref m2, .ref m3, .int sf, .int rdg, .int rt, .int (nI rwd), .int (nI rht), .ref m4, .int dx, .int dy, .int p0, .int q0, .int p1, .int q1, .int kp, .ref m5, .ref m6, .int (nI k), .int (nI sk), .int (nI tr), .int (nI co), .long ma, .long mc, .int mt, .int (nI b)])), (m6, .inl (cI, 4200, .inl f))] s.heap.size = A at hD hZ ⊢
  have hA : ∀ q : Nat, s.heap.size ≤ q → A q := fun q h => by rw [← hAe]; exact Or.inr h
  have hS : va_S A s.heap s.heap [] := va_S.rf
  have hk : hw_K (dC, dI) vwCl (ty3 cI cZ cJ) A s := ⟨hK, hN, hZ⟩
  have hiX8 : ∀ w ∈ u_ws RX8 TX8 31, w ∈ wsX8_byteAt := by decide +kernel
  have hl := lv_entry ([.ref m0, .int x]) (n := 2) (Nat.le_of_ble_eq_true rfl)
  rw [lg_entry_eq]
  generalize (lg_sl ([.ref m0, .int x]) ++ List.replicate (2 - (lg_sl ([.ref m0, .int x])).length) Slot.unset).toArray = ls at hl ⊢
  have hl : lv_has ls 2 [(0, .ref m0), (1, .int x)] := hl
  refine lv_aload_n hx hb dX8_byteAt_0 rfl (lv_at hl 0 rfl) ?_
  refine lv_iconst (v := 0) hx hb dX8_byteAt_1 (by decide) ?_
  refine va_put (D := (dC, dI)) (ci := 7) (v := .int 0) (ty := .int) (C := RX8) (T := TX8) (N := 31) hx hb hts hiX8 tyX8 tyX8_ok nmX8 hown hK hP hD hS 0 rfl rfl 0 (by decide) (hts (.fieldLink RX8 48 "RefineRegionsModel" "thrown" "I") (by decide +kernel)) (fun _ h9 => h9) rfl (by decide +kernel) rfl rfl (Nat.le_of_ble_eq_true rfl) dX8_byteAt_2 (fun H locs hP hD hS => ?_)
  have hP : va_P (dC, dI) vwCl [(m0, .inr (7, [.int 0, .ref m1, .int (nI w), .int (nI h), .int tp, .int ty, .ref m2, .ref m3, .int sf, .int rdg, .int rt, .int (nI rwd), .int (nI rht), .ref m4, .int dx, .int dy, .int p0, .int q0, .int p1, .int q1, .int kp, .ref m5, .ref m6, .int (nI k), .int (nI sk), .int (nI tr), .int (nI co), .long ma, .long mc, .int mt, .int (nI b)])), (m6, .inl (cI, 4200, .inl f))] H := hP
  have hD : va_D A [(m0, .inr (7, [.int 0, .ref m1, .int (nI w), .int (nI h), .int tp, .int ty, .ref m2, .ref m3, .int sf, .int rdg, .int rt, .int (nI rwd), .int (nI rht), .ref m4, .int dx, .int dy, .int p0, .int q0, .int p1, .int q1, .int kp, .ref m5, .ref m6, .int (nI k), .int (nI sk), .int (nI tr), .int (nI co), .long ma, .long mc, .int mt, .int (nI b)])), (m6, .inl (cI, 4200, .inl f))] := hD
  refine lv_iload_n hx hb dX8_byteAt_5 rfl (lv_at hl 1 rfl) ?_
  refine lv_if_lt (tgt := 17) hx hb dX8_byteAt_6 (by decide) (fun c_6 => ?_) (fun c_6 => ?_)
  · refine lv_iconst (v := (-1)) hx hb dX8_byteAt_17 (by decide) ?_
    refine lv_goto (tgt := 27) hx hb dX8_byteAt_18 (by decide) ?_
    have hP9 := hP
    have hD9 := hD
    exact W.iret (v := (-1)) hx hb hr (fun t ht hW => ⟨⟨(-1), (), rfl, (sp_vo_out (by first | exact Or.inl c_6 | exact Or.inr (Int32.not_lt.mp c_14))).symm, by rw [ht]; exact hP9, va_K.moved hW.alike hK, hD9⟩, hS.F ht⟩) hS.2.2 dX8_byteAt_27
  · refine lv_iload_n hx hb dX8_byteAt_9 rfl (lv_at hl 1 rfl) ?_
    refine lv_aload_n hx hb dX8_byteAt_10 rfl (lv_at hl 0 rfl) ?_
    refine va_get (D := (dC, dI)) (ci := 7) (v := .int (nI k)) (C := RX8) (T := TX8) (N := 31) hx hb hts hiX8 hown hK hP 0 rfl rfl 23 (by decide) (hts (.fieldLink RX8 100 "RefineRegionsModel" "many" "I") (by decide +kernel)) (fun _ h9 => h9) rfl dX8_byteAt_11 ?_
    refine lv_icmp_lt (tgt := 21) hx hb dX8_byteAt_14 (by decide) (fun c_14 => ?_) (fun c_14 => ?_)
    · refine lv_aload_n hx hb dX8_byteAt_21 rfl (lv_at hl 0 rfl) ?_
      refine va_get (D := (dC, dI)) (ci := 7) (v := .ref m6) (C := RX8) (T := TX8) (N := 31) hx hb hts hiX8 hown hK hP 0 rfl rfl 22 (by decide) (hts (.fieldLink RX8 45 "RefineRegionsModel" "bytes" "[I") (by decide +kernel)) (fun _ h9 => h9) rfl dX8_byteAt_22 ?_
      refine lv_iload_n hx hb dX8_byteAt_25 rfl (lv_at hl 1 rfl) ?_
      refine va_iald hx hb hK hP 1 0 rfl rfl (sp_vo_ix2 hk0 c_6 (Int32.not_le.mpr c_14)) dX8_byteAt_26 ?_
      have hP9 := hP
      have hD9 := hD
      exact W.iret (v := f x.toNatClampNeg) hx hb hr (fun t ht hW => ⟨⟨f x.toNatClampNeg, (), rfl, (sp_vo_in c_6 (Int32.not_le.mpr c_14)).symm, by rw [ht]; exact hP9, va_K.moved hW.alike hK, hD9⟩, hS.F ht⟩) hS.2.2 dX8_byteAt_27
    · refine lv_iconst (v := (-1)) hx hb dX8_byteAt_17 (by decide) ?_
      refine lv_goto (tgt := 27) hx hb dX8_byteAt_18 (by decide) ?_
      have hP9 := hP
      have hD9 := hD
      exact W.iret (v := (-1)) hx hb hr (fun t ht hW => ⟨⟨(-1), (), rfl, (sp_vo_out (by first | exact Or.inl c_6 | exact Or.inr (Int32.not_lt.mp c_14))).symm, by rw [ht]; exact hP9, va_K.moved hW.alike hK, hD9⟩, hS.F ht⟩) hS.2.2 dX8_byteAt_27

set_option maxHeartbeats 4000000 in
set_option maxRecDepth 100000 in
/-- at -/
theorem c_X8_at (l : Launch) (dC : Nat → ClassId) (dI : Nat → Nat → Nat) (cI cZ cJ : ClassId) (m0 : Nat) (m1 : Nat) (m2 : Nat) (m3 : Nat) (m4 : Nat) (m5 : Nat) (m6 : Nat) (th : Int32) (tp : Int32) (ty : Int32) (rdg : Int32) (rt : Int32) (dx : Int32) (dy : Int32) (p0 : Int32) (q0 : Int32) (p1 : Int32) (q1 : Int32) (kp : Int32) (w : Nat) (h : Nat) (rwd : Nat) (rht : Nat) (k : Nat) (sk : Nat) (tr : Nat) (co : Nat) (b : Nat) (ma : Int64) (mc : Int64) (mt : Int32) (ff : Nat → Int32) (x : Int32) (y : Int32) (sfb : Bool) (hw1 : w ≤ 40) (hh1 : h ≤ 40) (h01 : sp_01 ff) (sz : Nat) : Met l yX8_at wsX8_at ({ frames := 1, cells := 0, slots := 0, locals := 22 }) (hw_Pre (dC, dI) vwCl (ty3 cI cZ cJ) [(m0, .inr (7, [.int th, .ref m1, .int (nI w), .int (nI h), .int tp, .int ty, .ref m2, .ref m3, .int (sp_z sfb), .int rdg, .int rt, .int (nI rwd), .int (nI rht), .ref m4, .int dx, .int dy, .int p0, .int q0, .int p1, .int q1, .int kp, .ref m5, .ref m6, .int (nI k), .int (nI sk), .int (nI tr), .int (nI co), .long ma, .long mc, .int mt, .int (nI b)])), (m3, .inl (cZ, 1600, .inl ff))] sz [.ref m0, .int x, .int y]) (va_Qi (fun (r : Int32) (_ : Unit) => r = sp_at sfb (nI w) (nI h) ff x y) (hw_at (dC, dI) vwCl (ty3 cI cZ cJ) (fun _ : Unit => [(m0, .inr (7, [.int 0, .ref m1, .int (nI w), .int (nI h), .int tp, .int ty, .ref m2, .ref m3, .int (sp_z sfb), .int rdg, .int rt, .int (nI rwd), .int (nI rht), .ref m4, .int dx, .int dy, .int p0, .int q0, .int p1, .int q1, .int kp, .ref m5, .ref m6, .int (nI k), .int (nI sk), .int (nI tr), .int (nI co), .long ma, .long mc, .int mt, .int (nI b)])), (m3, .inl (cZ, 1600, .inl ff))]) (va_A [(m0, .inr (7, [.int th, .ref m1, .int (nI w), .int (nI h), .int tp, .int ty, .ref m2, .ref m3, .int (sp_z sfb), .int rdg, .int rt, .int (nI rwd), .int (nI rht), .ref m4, .int dx, .int dy, .int p0, .int q0, .int p1, .int q1, .int kp, .ref m5, .ref m6, .int (nI k), .int (nI sk), .int (nI tr), .int (nI co), .long ma, .long mc, .int mt, .int (nI b)])), (m3, .inl (cZ, 1600, .inl ff))] sz)) (va_A [(m0, .inr (7, [.int th, .ref m1, .int (nI w), .int (nI h), .int tp, .int ty, .ref m2, .ref m3, .int (sp_z sfb), .int rdg, .int rt, .int (nI rwd), .int (nI rht), .ref m4, .int dx, .int dy, .int p0, .int q0, .int p1, .int q1, .int kp, .ref m5, .ref m6, .int (nI k), .int (nI sk), .int (nI tr), .int (nI co), .long ma, .long mc, .int mt, .int (nI b)])), (m3, .inl (cZ, 1600, .inl ff))] sz)) 0 0 (va_A [(m0, .inr (7, [.int th, .ref m1, .int (nI w), .int (nI h), .int tp, .int ty, .ref m2, .ref m3, .int (sp_z sfb), .int rdg, .int rt, .int (nI rwd), .int (nI rht), .ref m4, .int dx, .int dy, .int p0, .int q0, .int p1, .int q1, .int kp, .ref m5, .ref m6, .int (nI k), .int (nI sk), .int (nI tr), .int (nI co), .long ma, .long mc, .int mt, .int (nI b)])), (m3, .inl (cZ, 1600, .inl ff))] sz) := by
  refine Met.ofW (cc := cX8_at) (maxL := 3) (ret := (some .int)) (by decide) rfl ?_
  intro pg ev s m args below meth cd s₁ B hml hv
  obtain ⟨rfl, hsz, hP, hK, hN, hZ, hD0⟩ := hv
  have hx := B.exec
  have hb := B.bytes
  have hr := B.returns
  have hts := atoms_spec (ws := wsX8_at) B.pre
  have hown : s.vm.findClass RX8 = some m.cls := findClass_of_methodNamed B.named
  have hlocks := B.notSynchronized
  subst hsz
  have hD := hD0.self (sz := s.heap.size)
  generalize hAe : va_A [(m0, .inr (7, [.int th, .ref m1, .int (nI w), .int (nI h), .int tp, .int ty, .ref m2, .ref m3, .int (sp_z sfb), .int rdg, .int rt, .int (nI rwd), .int (nI rht), .ref m4, .int dx, .int dy, .int p0, .int q0, .int p1, .int q1, .int kp, .ref m5, .ref m6, .int (nI k), .int (nI sk), .int (nI tr), .int (nI co), .long ma, .long mc, .int mt, .int (nI b)])), (m3, .inl (cZ, 1600, .inl ff))] s.heap.size = A at hD hZ ⊢
  have hA : ∀ q : Nat, s.heap.size ≤ q → A q := fun q h => by rw [← hAe]; exact Or.inr h
  have hS : va_S A s.heap s.heap [] := va_S.rf
  have hk : hw_K (dC, dI) vwCl (ty3 cI cZ cJ) A s := ⟨hK, hN, hZ⟩
  have hiX8 : ∀ w ∈ u_ws RX8 TX8 31, w ∈ wsX8_at := by decide +kernel
  have hl := lv_entry ([.ref m0, .int x, .int y]) (n := 3) (Nat.le_of_ble_eq_true rfl)
  rw [lg_entry_eq]
  generalize (lg_sl ([.ref m0, .int x, .int y]) ++ List.replicate (3 - (lg_sl ([.ref m0, .int x, .int y])).length) Slot.unset).toArray = ls at hl ⊢
  have hl : lv_has ls 3 [(0, .ref m0), (1, .int x), (2, .int y)] := hl
  refine lv_aload_n hx hb dX8_at_0 rfl (lv_at hl 0 rfl) ?_
  refine lv_iconst (v := 0) hx hb dX8_at_1 (by decide) ?_
  refine va_put (D := (dC, dI)) (ci := 7) (v := .int 0) (ty := .int) (C := RX8) (T := TX8) (N := 31) hx hb hts hiX8 tyX8 tyX8_ok nmX8 hown hK hP hD hS 0 rfl rfl 0 (by decide) (hts (.fieldLink RX8 48 "RefineRegionsModel" "thrown" "I") (by decide +kernel)) (fun _ h9 => h9) rfl (by decide +kernel) rfl rfl (Nat.le_of_ble_eq_true rfl) dX8_at_2 (fun H locs hP hD hS => ?_)
  have hP : va_P (dC, dI) vwCl [(m0, .inr (7, [.int 0, .ref m1, .int (nI w), .int (nI h), .int tp, .int ty, .ref m2, .ref m3, .int (sp_z sfb), .int rdg, .int rt, .int (nI rwd), .int (nI rht), .ref m4, .int dx, .int dy, .int p0, .int q0, .int p1, .int q1, .int kp, .ref m5, .ref m6, .int (nI k), .int (nI sk), .int (nI tr), .int (nI co), .long ma, .long mc, .int mt, .int (nI b)])), (m3, .inl (cZ, 1600, .inl ff))] H := hP
  have hD : va_D A [(m0, .inr (7, [.int 0, .ref m1, .int (nI w), .int (nI h), .int tp, .int ty, .ref m2, .ref m3, .int (sp_z sfb), .int rdg, .int rt, .int (nI rwd), .int (nI rht), .ref m4, .int dx, .int dy, .int p0, .int q0, .int p1, .int q1, .int kp, .ref m5, .ref m6, .int (nI k), .int (nI sk), .int (nI tr), .int (nI co), .long ma, .long mc, .int mt, .int (nI b)])), (m3, .inl (cZ, 1600, .inl ff))] := hD
  refine lv_aload_n hx hb dX8_at_5 rfl (lv_at hl 0 rfl) ?_
  refine va_get (D := (dC, dI)) (ci := 7) (v := .int (sp_z sfb)) (C := RX8) (T := TX8) (N := 31) hx hb hts hiX8 hown hK hP 0 rfl rfl 8 (by decide) (hts (.fieldLink RX8 58 "RefineRegionsModel" "wasRead" "Z") (by decide +kernel)) (fun _ h9 => h9) rfl dX8_at_6 ?_
  refine lv_if_eq (tgt := 21) hx hb dX8_at_9 (by decide) (fun c_9 => ?_) (fun c_9 => ?_)
  · refine lv_iconst (v := (-1)) hx hb dX8_at_21 (by decide) ?_
    refine lv_goto (tgt := 44) hx hb dX8_at_22 (by decide) ?_
    have hP9 := hP
    have hD9 := hD
    exact W.iret (v := (-1)) hx hb hr (fun t ht hW => ⟨⟨(-1), (), rfl, (sp_at_0 (by first | exact Or.inl (sp_z_0.mp c_9) | exact Or.inr (sp_no_0 c_18))).symm, by rw [ht]; exact hP9, va_K.moved hW.alike hK, hD9⟩, hS.F ht⟩) hS.2.2 dX8_at_44
  · refine lv_aload_n hx hb dX8_at_12 rfl (lv_at hl 0 rfl) ?_
    refine lv_iload_n hx hb dX8_at_13 rfl (lv_at hl 1 rfl) ?_
    refine lv_iload_n hx hb dX8_at_14 rfl (lv_at hl 2 rfl) ?_
    refine hw_callSe (va_runV (As := [.int x, .int y]) (rest := []) ⟨hx, hb, hml, hown, hts⟩ (c_X8_noPixel l dC dI cI cZ cJ m0 m1 m2 m3 m4 m5 m6 0 tp ty (sp_z sfb) rdg rt dx dy p0 q0 p1 q1 kp w h rwd rht k sk tr co b ma mc mt x y) (cwV 2 hts gX8_at_X8_noPixel rfl rfl rfl (by decide +kernel) ⟨Nat.le_of_ble_eq_true rfl, Nat.le_of_ble_eq_true rfl⟩) (hw_roV hP hS hk [0] rfl (ci := 7) (q0 := 0) rfl rfl) rfl rfl hl.1 rfl (lv_room (Nat.le_of_ble_eq_true rfl)) dX8_at_15 ⟨Nat.le_of_ble_eq_true rfl, Nat.le_of_ble_eq_true rfl⟩) ?_
    refine lv_if_eq (tgt := 25) hx hb dX8_at_18 (by decide) (fun c_18 => ?_) (fun c_18 => ?_)
    · refine lv_aload_n hx hb dX8_at_25 rfl (lv_at hl 0 rfl) ?_
      refine va_get (D := (dC, dI)) (ci := 7) (v := .ref m3) (C := RX8) (T := TX8) (N := 31) hx hb hts hiX8 hown hK hP 0 rfl rfl 7 (by decide) (hts (.fieldLink RX8 24 "RefineRegionsModel" "read" "[Z") (by decide +kernel)) (fun _ h9 => h9) rfl dX8_at_26 ?_
      refine lv_bipush (v := 40) hx hb dX8_at_29 (by decide) ?_
      refine lv_iload_n hx hb dX8_at_31 rfl (lv_at hl 2 rfl) ?_
      refine lv_imul hx hb dX8_at_32 ?_
      refine lv_iload_n hx hb dX8_at_33 rfl (lv_at hl 1 rfl) ?_
      refine lv_iadd hx hb dX8_at_34 ?_
      refine va_zald hx hb hK hP 1 1 rfl rfl (by rw [sp_40]; exact sp_ho_ix (n := 40) (by decide) hw1 hh1 (sp_no_1 c_18)) dX8_at_35 ?_
      refine lv_if_eq (tgt := 43) hx hb dX8_at_36 (by decide) (fun c_36 => ?_) (fun c_36 => ?_)
      · refine lv_iconst (v := 0) hx hb dX8_at_43 (by decide) ?_
        have hP9 := hP
        have hD9 := hD
        exact W.iret (v := 0) hx hb hr (fun t ht hW => ⟨⟨0, (), rfl, by rw [sp_at_1 (sp_z_1 c_9) (sp_no_1 c_18), sp_px_ho1 (sp_no_1 c_18), ← sp_40]; exact c_36.symm, by rw [ht]; exact hP9, va_K.moved hW.alike hK, hD9⟩, hS.F ht⟩) hS.2.2 dX8_at_44
      · refine lv_iconst (v := 1) hx hb dX8_at_39 (by decide) ?_
        refine lv_goto (tgt := 44) hx hb dX8_at_40 (by decide) ?_
        have hP9 := hP
        have hD9 := hD
        exact W.iret (v := 1) hx hb hr (fun t ht hW => ⟨⟨1, (), rfl, by rw [sp_at_1 (sp_z_1 c_9) (sp_no_1 c_18), sp_px_ho1 (sp_no_1 c_18), ← sp_40]; exact ((h01 _).resolve_left c_36).symm, by rw [ht]; exact hP9, va_K.moved hW.alike hK, hD9⟩, hS.F ht⟩) hS.2.2 dX8_at_44
    · refine lv_iconst (v := (-1)) hx hb dX8_at_21 (by decide) ?_
      refine lv_goto (tgt := 44) hx hb dX8_at_22 (by decide) ?_
      have hP9 := hP
      have hD9 := hD
      exact W.iret (v := (-1)) hx hb hr (fun t ht hW => ⟨⟨(-1), (), rfl, (sp_at_0 (by first | exact Or.inl (sp_z_0.mp c_9) | exact Or.inr (sp_no_0 c_18))).symm, by rw [ht]; exact hP9, va_K.moved hW.alike hK, hD9⟩, hS.F ht⟩) hS.2.2 dX8_at_44

set_option maxHeartbeats 4000000 in
set_option maxRecDepth 100000 in
/-- take(), nothing read -/
theorem c_X8_take_0 (l : Launch) (dC : Nat → ClassId) (dI : Nat → Nat → Nat) (cI cZ cJ : ClassId) (m0 : Nat) (m1 : Nat) (m2 : Nat) (m3 : Nat) (m4 : Nat) (m5 : Nat) (m6 : Nat) (th : Int32) (tp : Int32) (ty : Int32) (rdg : Int32) (rt : Int32) (dx : Int32) (dy : Int32) (p0 : Int32) (q0 : Int32) (p1 : Int32) (q1 : Int32) (kp : Int32) (w : Nat) (h : Nat) (rwd : Nat) (rht : Nat) (k : Nat) (sk : Nat) (tr : Nat) (co : Nat) (b : Nat) (ma : Int64) (mc : Int64) (mt : Int32) (sz : Nat) : Met l yX8_take wsX8_take ({ frames := 0, cells := 0, slots := 0, locals := 0 }) (hw_Pre (dC, dI) vwCl (ty3 cI cZ cJ) [(m0, .inr (7, [.int th, .ref m1, .int (nI w), .int (nI h), .int tp, .int ty, .ref m2, .ref m3, .int 0, .int rdg, .int rt, .int (nI rwd), .int (nI rht), .ref m4, .int dx, .int dy, .int p0, .int q0, .int p1, .int q1, .int kp, .ref m5, .ref m6, .int (nI k), .int (nI sk), .int (nI tr), .int (nI co), .long ma, .long mc, .int mt, .int (nI b)]))] sz [.ref m0]) (va_Qi (fun (r : Int32) (_ : Unit) => r = 0) (hw_at (dC, dI) vwCl (ty3 cI cZ cJ) (fun _ : Unit => [(m0, .inr (7, [.int 0, .ref m1, .int (nI w), .int (nI h), .int tp, .int ty, .ref m2, .ref m3, .int 0, .int rdg, .int rt, .int (nI rwd), .int (nI rht), .ref m4, .int dx, .int dy, .int p0, .int q0, .int p1, .int q1, .int kp, .ref m5, .ref m6, .int (nI k), .int (nI sk), .int (nI tr), .int (nI co), .long ma, .long mc, .int mt, .int (nI b)]))]) (va_A [(m0, .inr (7, [.int th, .ref m1, .int (nI w), .int (nI h), .int tp, .int ty, .ref m2, .ref m3, .int 0, .int rdg, .int rt, .int (nI rwd), .int (nI rht), .ref m4, .int dx, .int dy, .int p0, .int q0, .int p1, .int q1, .int kp, .ref m5, .ref m6, .int (nI k), .int (nI sk), .int (nI tr), .int (nI co), .long ma, .long mc, .int mt, .int (nI b)]))] sz)) (va_A [(m0, .inr (7, [.int th, .ref m1, .int (nI w), .int (nI h), .int tp, .int ty, .ref m2, .ref m3, .int 0, .int rdg, .int rt, .int (nI rwd), .int (nI rht), .ref m4, .int dx, .int dy, .int p0, .int q0, .int p1, .int q1, .int kp, .ref m5, .ref m6, .int (nI k), .int (nI sk), .int (nI tr), .int (nI co), .long ma, .long mc, .int mt, .int (nI b)]))] sz)) 0 0 (va_A [(m0, .inr (7, [.int th, .ref m1, .int (nI w), .int (nI h), .int tp, .int ty, .ref m2, .ref m3, .int 0, .int rdg, .int rt, .int (nI rwd), .int (nI rht), .ref m4, .int dx, .int dy, .int p0, .int q0, .int p1, .int q1, .int kp, .ref m5, .ref m6, .int (nI k), .int (nI sk), .int (nI tr), .int (nI co), .long ma, .long mc, .int mt, .int (nI b)]))] sz) := by
  refine Met.ofW (cc := cX8_take) (maxL := 2) (ret := (some .boolean)) (by decide) rfl ?_
  intro pg ev s m args below meth cd s₁ B hml hv
  obtain ⟨rfl, hsz, hP, hK, hN, hZ, hD0⟩ := hv
  have hx := B.exec
  have hb := B.bytes
  have hr := B.returns
  have hts := atoms_spec (ws := wsX8_take) B.pre
  have hown : s.vm.findClass RX8 = some m.cls := findClass_of_methodNamed B.named
  have hlocks := B.notSynchronized
  subst hsz
  have hD := hD0.self (sz := s.heap.size)
  generalize hAe : va_A [(m0, .inr (7, [.int th, .ref m1, .int (nI w), .int (nI h), .int tp, .int ty, .ref m2, .ref m3, .int 0, .int rdg, .int rt, .int (nI rwd), .int (nI rht), .ref m4, .int dx, .int dy, .int p0, .int q0, .int p1, .int q1, .int kp, .ref m5, .ref m6, .int (nI k), .int (nI sk), .int (nI tr), .int (nI co), .long ma, .long mc, .int mt, .int (nI b)]))] s.heap.size = A at hD hZ ⊢
  have hA : ∀ q : Nat, s.heap.size ≤ q → A q := fun q h => by rw [← hAe]; exact Or.inr h
  have hS : va_S A s.heap s.heap [] := va_S.rf
  have hk : hw_K (dC, dI) vwCl (ty3 cI cZ cJ) A s := ⟨hK, hN, hZ⟩
  have hiX8 : ∀ w ∈ u_ws RX8 TX8 31, w ∈ wsX8_take := by decide +kernel
  have hl := lv_entry ([.ref m0]) (n := 2) (Nat.le_of_ble_eq_true rfl)
  rw [lg_entry_eq]
  generalize (lg_sl ([.ref m0]) ++ List.replicate (2 - (lg_sl ([.ref m0])).length) Slot.unset).toArray = ls at hl ⊢
  have hl : lv_has ls 2 [(0, .ref m0)] := hl
  refine lv_aload_n hx hb dX8_take_0 rfl (lv_at hl 0 rfl) ?_
  refine lv_iconst (v := 0) hx hb dX8_take_1 (by decide) ?_
  refine va_put (D := (dC, dI)) (ci := 7) (v := .int 0) (ty := .int) (C := RX8) (T := TX8) (N := 31) hx hb hts hiX8 tyX8 tyX8_ok nmX8 hown hK hP hD hS 0 rfl rfl 0 (by decide) (hts (.fieldLink RX8 48 "RefineRegionsModel" "thrown" "I") (by decide +kernel)) (fun _ h9 => h9) rfl (by decide +kernel) rfl rfl (Nat.le_of_ble_eq_true rfl) dX8_take_2 (fun H locs hP hD hS => ?_)
  have hP : va_P (dC, dI) vwCl [(m0, .inr (7, [.int 0, .ref m1, .int (nI w), .int (nI h), .int tp, .int ty, .ref m2, .ref m3, .int 0, .int rdg, .int rt, .int (nI rwd), .int (nI rht), .ref m4, .int dx, .int dy, .int p0, .int q0, .int p1, .int q1, .int kp, .ref m5, .ref m6, .int (nI k), .int (nI sk), .int (nI tr), .int (nI co), .long ma, .long mc, .int mt, .int (nI b)]))] H := hP
  have hD : va_D A [(m0, .inr (7, [.int 0, .ref m1, .int (nI w), .int (nI h), .int tp, .int ty, .ref m2, .ref m3, .int 0, .int rdg, .int rt, .int (nI rwd), .int (nI rht), .ref m4, .int dx, .int dy, .int p0, .int q0, .int p1, .int q1, .int kp, .ref m5, .ref m6, .int (nI k), .int (nI sk), .int (nI tr), .int (nI co), .long ma, .long mc, .int mt, .int (nI b)]))] := hD
  refine lv_aload_n hx hb dX8_take_5 rfl (lv_at hl 0 rfl) ?_
  refine va_get (D := (dC, dI)) (ci := 7) (v := .int 0) (C := RX8) (T := TX8) (N := 31) hx hb hts hiX8 hown hK hP 0 rfl rfl 8 (by decide) (hts (.fieldLink RX8 58 "RefineRegionsModel" "wasRead" "Z") (by decide +kernel)) (fun _ h9 => h9) rfl dX8_take_6 ?_
  refine lv_if_ne (tgt := 14) hx hb dX8_take_9 (by decide) (fun c9 => absurd c9 (by decide)) (fun _ => ?_)
  refine lv_iconst (v := 0) hx hb dX8_take_12 (by decide) ?_
  have hP9 := hP
  have hD9 := hD
  exact W.zret (v := 0) hx hb hr (by decide +kernel) (fun t ht hW => ⟨⟨0, (), rfl, rfl, by rw [ht]; exact hP9, va_K.moved hW.alike hK, hD9⟩, hS.F ht⟩) hS.2.2 dX8_take_13

set_option maxHeartbeats 4000000 in
set_option maxRecDepth 100000 in
/-- take(), something read -/
theorem c_X8_take_1 (l : Launch) (dC : Nat → ClassId) (dI : Nat → Nat → Nat) (cI cZ cJ : ClassId) (m0 : Nat) (m1 : Nat) (m2 : Nat) (m3 : Nat) (m4 : Nat) (m5 : Nat) (m6 : Nat) (th : Int32) (tp : Int32) (ty : Int32) (rdg : Int32) (rt : Int32) (dx : Int32) (dy : Int32) (p0 : Int32) (q0 : Int32) (p1 : Int32) (q1 : Int32) (kp : Int32) (w : Nat) (h : Nat) (rwd : Nat) (rht : Nat) (k : Nat) (sk : Nat) (tr : Nat) (co : Nat) (b : Nat) (ma : Int64) (mc : Int64) (mt : Int32) (ff : Nat → Int32) (rg : Nat → Int32) (hw1 : w ≤ 40) (hh1 : h ≤ 40) (hw0 : 1 ≤ w) (h01 : sp_01 ff) (sz : Nat) : Met l yX8_take wsX8_take ({ frames := 1, cells := 0, slots := 0, locals := 23 }) (hw_Pre (dC, dI) vwCl (ty3 cI cZ cJ) [(m0, .inr (7, [.int th, .ref m1, .int (nI w), .int (nI h), .int tp, .int ty, .ref m2, .ref m3, .int 1, .int rdg, .int rt, .int (nI rwd), .int (nI rht), .ref m4, .int dx, .int dy, .int p0, .int q0, .int p1, .int q1, .int kp, .ref m5, .ref m6, .int (nI k), .int (nI sk), .int (nI tr), .int (nI co), .long ma, .long mc, .int mt, .int (nI b)])), (m3, .inl (cZ, 1600, .inl ff)), (m4, .inl (cZ, 3600, .inl rg))] sz [.ref m0]) (va_Qi (fun (r : Int32) (_ : Unit) => r = 1) (hw_at (dC, dI) vwCl (ty3 cI cZ cJ) (fun _ : Unit => [(m0, .inr (7, [.int 0, .ref m1, .int (nI w), .int (nI h), .int tp, .int ty, .ref m2, .ref m3, .int 1, .int rdg, .int 1, .int (nI w), .int (nI h), .ref m4, .int 0, .int 0, .int p0, .int q0, .int p1, .int q1, .int kp, .ref m5, .ref m6, .int (nI k), .int (nI sk), .int (nI tr), .int (nI co), .long ma, .long mc, .int mt, .int (nI b)])), (m3, .inl (cZ, 1600, .inl ff)), (m4, .inl (cZ, 3600, .inl (sp_it2 (fun x y g => sp_pt (nI 60) (nI w) (nI h) g (nI x) (nI y) (sp_px (nI 40) (nI w) (nI h) ff (nI x) (nI y))) w h (fun _ => 0))))]) (va_A [(m0, .inr (7, [.int th, .ref m1, .int (nI w), .int (nI h), .int tp, .int ty, .ref m2, .ref m3, .int 1, .int rdg, .int rt, .int (nI rwd), .int (nI rht), .ref m4, .int dx, .int dy, .int p0, .int q0, .int p1, .int q1, .int kp, .ref m5, .ref m6, .int (nI k), .int (nI sk), .int (nI tr), .int (nI co), .long ma, .long mc, .int mt, .int (nI b)])), (m3, .inl (cZ, 1600, .inl ff)), (m4, .inl (cZ, 3600, .inl rg))] sz)) (va_A [(m0, .inr (7, [.int th, .ref m1, .int (nI w), .int (nI h), .int tp, .int ty, .ref m2, .ref m3, .int 1, .int rdg, .int rt, .int (nI rwd), .int (nI rht), .ref m4, .int dx, .int dy, .int p0, .int q0, .int p1, .int q1, .int kp, .ref m5, .ref m6, .int (nI k), .int (nI sk), .int (nI tr), .int (nI co), .long ma, .long mc, .int mt, .int (nI b)])), (m3, .inl (cZ, 1600, .inl ff)), (m4, .inl (cZ, 3600, .inl rg))] sz)) 0 0 (va_A [(m0, .inr (7, [.int th, .ref m1, .int (nI w), .int (nI h), .int tp, .int ty, .ref m2, .ref m3, .int 1, .int rdg, .int rt, .int (nI rwd), .int (nI rht), .ref m4, .int dx, .int dy, .int p0, .int q0, .int p1, .int q1, .int kp, .ref m5, .ref m6, .int (nI k), .int (nI sk), .int (nI tr), .int (nI co), .long ma, .long mc, .int mt, .int (nI b)])), (m3, .inl (cZ, 1600, .inl ff)), (m4, .inl (cZ, 3600, .inl rg))] sz) := by
  refine Met.ofW (cc := cX8_take) (maxL := 2) (ret := (some .boolean)) (by decide) rfl ?_
  intro pg ev s m args below meth cd s₁ B hml hv
  obtain ⟨rfl, hsz, hP, hK, hN, hZ, hD0⟩ := hv
  have hx := B.exec
  have hb := B.bytes
  have hr := B.returns
  have hts := atoms_spec (ws := wsX8_take) B.pre
  have hown : s.vm.findClass RX8 = some m.cls := findClass_of_methodNamed B.named
  have hlocks := B.notSynchronized
  subst hsz
  have hD := hD0.self (sz := s.heap.size)
  generalize hAe : va_A [(m0, .inr (7, [.int th, .ref m1, .int (nI w), .int (nI h), .int tp, .int ty, .ref m2, .ref m3, .int 1, .int rdg, .int rt, .int (nI rwd), .int (nI rht), .ref m4, .int dx, .int dy, .int p0, .int q0, .int p1, .int q1, .int kp, .ref m5, .ref m6, .int (nI k), .int (nI sk), .int (nI tr), .int (nI co), .long ma, .long mc, .int mt, .int (nI b)])), (m3, .inl (cZ, 1600, .inl ff)), (m4, .inl (cZ, 3600, .inl rg))] s.heap.size = A at hD hZ ⊢
  have hA : ∀ q : Nat, s.heap.size ≤ q → A q := fun q h => by rw [← hAe]; exact Or.inr h
  have hS : va_S A s.heap s.heap [] := va_S.rf
  have hk : hw_K (dC, dI) vwCl (ty3 cI cZ cJ) A s := ⟨hK, hN, hZ⟩
  have hiX8 : ∀ w ∈ u_ws RX8 TX8 31, w ∈ wsX8_take := by decide +kernel
  have hwh : w * h ≤ 1600 := by have q8 := Nat.mul_le_mul hw1 hh1; omega
  have hl := lv_entry ([.ref m0]) (n := 2) (Nat.le_of_ble_eq_true rfl)
  rw [lg_entry_eq]
  generalize (lg_sl ([.ref m0]) ++ List.replicate (2 - (lg_sl ([.ref m0])).length) Slot.unset).toArray = ls at hl ⊢
  have hl : lv_has ls 2 [(0, .ref m0)] := hl
  refine lv_aload_n hx hb dX8_take_0 rfl (lv_at hl 0 rfl) ?_
  refine lv_iconst (v := 0) hx hb dX8_take_1 (by decide) ?_
  refine va_put (D := (dC, dI)) (ci := 7) (v := .int 0) (ty := .int) (C := RX8) (T := TX8) (N := 31) hx hb hts hiX8 tyX8 tyX8_ok nmX8 hown hK hP hD hS 0 rfl rfl 0 (by decide) (hts (.fieldLink RX8 48 "RefineRegionsModel" "thrown" "I") (by decide +kernel)) (fun _ h9 => h9) rfl (by decide +kernel) rfl rfl (Nat.le_of_ble_eq_true rfl) dX8_take_2 (fun H locs hP hD hS => ?_)
  have hP : va_P (dC, dI) vwCl [(m0, .inr (7, [.int 0, .ref m1, .int (nI w), .int (nI h), .int tp, .int ty, .ref m2, .ref m3, .int 1, .int rdg, .int rt, .int (nI rwd), .int (nI rht), .ref m4, .int dx, .int dy, .int p0, .int q0, .int p1, .int q1, .int kp, .ref m5, .ref m6, .int (nI k), .int (nI sk), .int (nI tr), .int (nI co), .long ma, .long mc, .int mt, .int (nI b)])), (m3, .inl (cZ, 1600, .inl ff)), (m4, .inl (cZ, 3600, .inl rg))] H := hP
  have hD : va_D A [(m0, .inr (7, [.int 0, .ref m1, .int (nI w), .int (nI h), .int tp, .int ty, .ref m2, .ref m3, .int 1, .int rdg, .int rt, .int (nI rwd), .int (nI rht), .ref m4, .int dx, .int dy, .int p0, .int q0, .int p1, .int q1, .int kp, .ref m5, .ref m6, .int (nI k), .int (nI sk), .int (nI tr), .int (nI co), .long ma, .long mc, .int mt, .int (nI b)])), (m3, .inl (cZ, 1600, .inl ff)), (m4, .inl (cZ, 3600, .inl rg))] := hD
  refine lv_aload_n hx hb dX8_take_5 rfl (lv_at hl 0 rfl) ?_
  refine va_get (D := (dC, dI)) (ci := 7) (v := .int 1) (C := RX8) (T := TX8) (N := 31) hx hb hts hiX8 hown hK hP 0 rfl rfl 8 (by decide) (hts (.fieldLink RX8 58 "RefineRegionsModel" "wasRead" "Z") (by decide +kernel)) (fun _ h9 => h9) rfl dX8_take_6 ?_
  refine lv_if_ne (tgt := 14) hx hb dX8_take_9 (by decide) (fun _ => ?_) (fun c9 => absurd c9 (by decide))
  refine lv_aload_n hx hb dX8_take_14 rfl (lv_at hl 0 rfl) ?_
  refine lv_aload_n hx hb dX8_take_15 rfl (lv_at hl 0 rfl) ?_
  refine va_get (D := (dC, dI)) (ci := 7) (v := .int (nI w)) (C := RX8) (T := TX8) (N := 31) hx hb hts hiX8 hown hK hP 0 rfl rfl 2 (by decide) (hts (.fieldLink RX8 13 "RefineRegionsModel" "width" "I") (by decide +kernel)) (fun _ h9 => h9) rfl dX8_take_16 ?_
  refine lv_aload_n hx hb dX8_take_19 rfl (lv_at hl 0 rfl) ?_
  refine va_get (D := (dC, dI)) (ci := 7) (v := .int (nI h)) (C := RX8) (T := TX8) (N := 31) hx hb hts hiX8 hown hK hP 0 rfl rfl 3 (by decide) (hts (.fieldLink RX8 17 "RefineRegionsModel" "height" "I") (by decide +kernel)) (fun _ h9 => h9) rfl dX8_take_20 ?_
  refine hw_callv (wr := [(m3, .inl (cZ, 1600, .inl ff))]) (w2 := fun _ : Unit => [(m0, .inr (7, [.int 0, .ref m1, .int (nI w), .int (nI h), .int tp, .int ty, .ref m2, .ref m3, .int 1, .int rdg, .int 1, .int (nI w), .int (nI h), .ref m4, .int 0, .int 0, .int p0, .int q0, .int p1, .int q1, .int kp, .ref m5, .ref m6, .int (nI k), .int (nI sk), .int (nI tr), .int (nI co), .long ma, .long mc, .int mt, .int (nI b)])), (m3, .inl (cZ, 1600, .inl ff)), (m4, .inl (cZ, 3600, .inl (fun _ => 0)))]) (va_runV (As := [.int (nI w), .int (nI h)]) (rest := []) ⟨hx, hb, hml, hown, hts⟩ (c_X8_whiteReference l dC dI cI cZ cJ m0 m1 m2 m3 m4 m5 m6 0 tp ty 1 rdg rt dx dy p0 q0 p1 q1 kp w h rwd rht k sk tr co b ma mc mt rg w h H.size) (cwV 2 hts gX8_take_X8_whiteReference rfl rfl rfl (by decide +kernel) ⟨Nat.le_of_ble_eq_true rfl, Nat.le_of_ble_eq_true rfl⟩) (hw_preV hP hD hS hA hk [0, 2] (by decide) rfl (ci := 7) (q0 := 0) rfl rfl) rfl rfl hl.1 rfl (lv_room (Nat.le_of_ble_eq_true rfl)) dX8_take_23 ⟨Nat.le_of_ble_eq_true rfl, Nat.le_of_ble_eq_true rfl⟩) hP hD hS hA [0, 2] [1] [1, 0, 2] rfl rfl (by decide) (by decide) (by decide) (fun _ => rfl) (fun u_23 H locs hw hP hD hS => ?_)
  have hP : va_P (dC, dI) vwCl [(m0, .inr (7, [.int 0, .ref m1, .int (nI w), .int (nI h), .int tp, .int ty, .ref m2, .ref m3, .int 1, .int rdg, .int 1, .int (nI w), .int (nI h), .ref m4, .int 0, .int 0, .int p0, .int q0, .int p1, .int q1, .int kp, .ref m5, .ref m6, .int (nI k), .int (nI sk), .int (nI tr), .int (nI co), .long ma, .long mc, .int mt, .int (nI b)])), (m3, .inl (cZ, 1600, .inl ff)), (m4, .inl (cZ, 3600, .inl (fun _ => 0)))] H := hP
  have hD : va_D A [(m0, .inr (7, [.int 0, .ref m1, .int (nI w), .int (nI h), .int tp, .int ty, .ref m2, .ref m3, .int 1, .int rdg, .int 1, .int (nI w), .int (nI h), .ref m4, .int 0, .int 0, .int p0, .int q0, .int p1, .int q1, .int kp, .ref m5, .ref m6, .int (nI k), .int (nI sk), .int (nI tr), .int (nI co), .long ma, .long mc, .int mt, .int (nI b)])), (m3, .inl (cZ, 1600, .inl ff)), (m4, .inl (cZ, 3600, .inl (fun _ => 0)))] := hD
  refine lv_iconst (v := 0) hx hb dX8_take_26 (by decide) ?_
  refine lv_istore_n (lv' := [(1, .int 0), (0, .ref m0)]) hx hb dX8_take_27 rfl hl (by decide) rfl (fun ls hl => ?_)
  have eA : (fun _ => 0) = sp_tkk (fun x y g => sp_pt (nI 60) (nI w) (nI h) g (nI x) (nI y) (sp_px (nI 40) (nI w) (nI h) ff (nI x) (nI y))) w 0 (fun _ => 0) := sp_tkk_0.symm
  rw [eA] at hP hD
  have hP : va_P (dC, dI) vwCl [(m0, .inr (7, [.int 0, .ref m1, .int (nI w), .int (nI h), .int tp, .int ty, .ref m2, .ref m3, .int 1, .int rdg, .int 1, .int (nI w), .int (nI h), .ref m4, .int 0, .int 0, .int p0, .int q0, .int p1, .int q1, .int kp, .ref m5, .ref m6, .int (nI k), .int (nI sk), .int (nI tr), .int (nI co), .long ma, .long mc, .int mt, .int (nI b)])), (m3, .inl (cZ, 1600, .inl ff)), (m4, .inl (cZ, 3600, .inl (sp_tkk (fun x y g => sp_pt (nI 60) (nI w) (nI h) g (nI x) (nI y) (sp_px (nI 40) (nI w) (nI h) ff (nI x) (nI y))) w 0 (fun _ => 0))))] H := hP
  have hD : va_D A [(m0, .inr (7, [.int 0, .ref m1, .int (nI w), .int (nI h), .int tp, .int ty, .ref m2, .ref m3, .int 1, .int rdg, .int 1, .int (nI w), .int (nI h), .ref m4, .int 0, .int 0, .int p0, .int q0, .int p1, .int q1, .int kp, .ref m5, .ref m6, .int (nI k), .int (nI sk), .int (nI tr), .int (nI co), .long ma, .long mc, .int mt, .int (nI b)])), (m3, .inl (cZ, 1600, .inl ff)), (m4, .inl (cZ, 3600, .inl (sp_tkk (fun x y g => sp_pt (nI 60) (nI w) (nI h) g (nI x) (nI y) (sp_px (nI 40) (nI w) (nI h) ff (nI x) (nI y))) w 0 (fun _ => 0))))] := hD
  have loop_28 : ∀ (fu : Nat) (i : Nat), (i ≤ w * h) → (w * h - i < fu) → ∀ (H : Heap) (locs : List Loc), va_P (dC, dI) vwCl [(m0, .inr (7, [.int 0, .ref m1, .int (nI w), .int (nI h), .int tp, .int ty, .ref m2, .ref m3, .int 1, .int rdg, .int 1, .int (nI w), .int (nI h), .ref m4, .int 0, .int 0, .int p0, .int q0, .int p1, .int q1, .int kp, .ref m5, .ref m6, .int (nI k), .int (nI sk), .int (nI tr), .int (nI co), .long ma, .long mc, .int mt, .int (nI b)])), (m3, .inl (cZ, 1600, .inl ff)), (m4, .inl (cZ, 3600, .inl (sp_tkk (fun x y g => sp_pt (nI 60) (nI w) (nI h) g (nI x) (nI y) (sp_px (nI 40) (nI w) (nI h) ff (nI x) (nI y))) w i (fun _ => 0))))] H → va_D A [(m0, .inr (7, [.int 0, .ref m1, .int (nI w), .int (nI h), .int tp, .int ty, .ref m2, .ref m3, .int 1, .int rdg, .int 1, .int (nI w), .int (nI h), .ref m4, .int 0, .int 0, .int p0, .int q0, .int p1, .int q1, .int kp, .ref m5, .ref m6, .int (nI k), .int (nI sk), .int (nI tr), .int (nI co), .long ma, .long mc, .int mt, .int (nI b)])), (m3, .inl (cZ, 1600, .inl ff)), (m4, .inl (cZ, 3600, .inl (sp_tkk (fun x y g => sp_pt (nI 60) (nI w) (nI h) g (nI x) (nI y) (sp_px (nI 40) (nI w) (nI h) ff (nI x) (nI y))) w i (fun _ => 0))))] → va_S A s.heap H locs → ∀ ls : Array Slot, lv_has ls 2 [(1, .int (nI i)), (0, .ref m0)] → W pg l ev (headSpec wsX8_take ({ frames := 1, cells := 0, slots := 0, locals := 23 })).room s m ([.ref m0]).toArray below meth cd H locs 0 0 (MQ below (va_Qi (fun (r : Int32) (_ : Unit) => r = 1) (hw_at (dC, dI) vwCl (ty3 cI cZ cJ) (fun _ : Unit => [(m0, .inr (7, [.int 0, .ref m1, .int (nI w), .int (nI h), .int tp, .int ty, .ref m2, .ref m3, .int 1, .int rdg, .int 1, .int (nI w), .int (nI h), .ref m4, .int 0, .int 0, .int p0, .int q0, .int p1, .int q1, .int kp, .ref m5, .ref m6, .int (nI k), .int (nI sk), .int (nI tr), .int (nI co), .long ma, .long mc, .int mt, .int (nI b)])), (m3, .inl (cZ, 1600, .inl ff)), (m4, .inl (cZ, 3600, .inl (sp_it2 (fun x y g => sp_pt (nI 60) (nI w) (nI h) g (nI x) (nI y) (sp_px (nI 40) (nI w) (nI h) ff (nI x) (nI y))) w h (fun _ => 0))))]) A) A) ([.ref m0]).toArray s 0 0 A) (F0 m 28 ls []) := by
    intro fu
    induction fu with
    | zero =>
      intro i hi hm
      omega
    | succ fu ih_28 =>
      intro i hi hm H locs hP hD hS ls hl
      refine lv_iload_n hx hb dX8_take_28 rfl (lv_at hl 0 rfl) ?_
      refine lv_aload_n hx hb dX8_take_29 rfl (lv_at hl 1 rfl) ?_
      refine va_get (D := (dC, dI)) (ci := 7) (v := .int (nI w)) (C := RX8) (T := TX8) (N := 31) hx hb hts hiX8 hown hK hP 0 rfl rfl 2 (by decide) (hts (.fieldLink RX8 13 "RefineRegionsModel" "width" "I") (by decide +kernel)) (fun _ h9 => h9) rfl dX8_take_30 ?_
      refine lv_aload_n hx hb dX8_take_33 rfl (lv_at hl 1 rfl) ?_
      refine va_get (D := (dC, dI)) (ci := 7) (v := .int (nI h)) (C := RX8) (T := TX8) (N := 31) hx hb hts hiX8 hown hK hP 0 rfl rfl 3 (by decide) (hts (.fieldLink RX8 17 "RefineRegionsModel" "height" "I") (by decide +kernel)) (fun _ h9 => h9) rfl dX8_take_34 ?_
      refine lv_imul hx hb dX8_take_37 ?_
      refine lv_icmp_ge (tgt := 89) hx hb dX8_take_38 (by decide) (fun c_38 => ?_) (fun c_38 => ?_)
      · have hi9 : i = w * h := by rw [pk_mul, nI_leI (by omega) (by omega)] at c_38; omega
        rw [hi9] at hl hP hD
        rw [sp_tkk_e (by omega)] at hP hD
        refine lv_iconst (v := 1) hx hb dX8_take_89 (by decide) ?_
        have hP9 := hP
        have hD9 := hD
        exact W.zret (v := 1) hx hb hr (by decide +kernel) (fun t ht hW => ⟨⟨1, (), rfl, rfl, by rw [ht]; exact hP9, va_K.moved hW.alike hK, hD9⟩, hS.F ht⟩) hS.2.2 dX8_take_90
      · have hi9 : i < w * h := by rw [pk_mul, nI_leI (by omega) (by omega)] at c_38; omega
        have hx9 : i % w < w := Nat.mod_lt _ (by omega)
        have hy9 : i / w < h := Nat.div_lt_of_lt_mul hi9
        refine lv_aload_n hx hb dX8_take_41 rfl (lv_at hl 1 rfl) ?_
        refine va_get (D := (dC, dI)) (ci := 7) (v := .ref m4) (C := RX8) (T := TX8) (N := 31) hx hb hts hiX8 hown hK hP 0 rfl rfl 13 (by decide) (hts (.fieldLink RX8 27 "RefineRegionsModel" "reference" "[Z") (by decide +kernel)) (fun _ h9 => h9) rfl dX8_take_42 ?_
        refine lv_bipush (v := 60) hx hb dX8_take_45 (by decide) ?_
        refine lv_iload_n hx hb dX8_take_47 rfl (lv_at hl 0 rfl) ?_
        refine lv_aload_n hx hb dX8_take_48 rfl (lv_at hl 1 rfl) ?_
        refine va_get (D := (dC, dI)) (ci := 7) (v := .int (nI w)) (C := RX8) (T := TX8) (N := 31) hx hb hts hiX8 hown hK hP 0 rfl rfl 2 (by decide) (hts (.fieldLink RX8 13 "RefineRegionsModel" "width" "I") (by decide +kernel)) (fun _ h9 => h9) rfl dX8_take_49 ?_
        refine lv_idiv hx hb dX8_take_52 (nI_ne0 (by omega) (by omega)) ?_
        refine hw_i (y := nI (i / w)) (nI_div (by omega) (by omega)) ?_
        refine lv_imul hx hb dX8_take_53 ?_
        refine lv_iload_n hx hb dX8_take_54 rfl (lv_at hl 0 rfl) ?_
        refine lv_aload_n hx hb dX8_take_55 rfl (lv_at hl 1 rfl) ?_
        refine va_get (D := (dC, dI)) (ci := 7) (v := .int (nI w)) (C := RX8) (T := TX8) (N := 31) hx hb hts hiX8 hown hK hP 0 rfl rfl 2 (by decide) (hts (.fieldLink RX8 13 "RefineRegionsModel" "width" "I") (by decide +kernel)) (fun _ h9 => h9) rfl dX8_take_56 ?_
        refine lv_irem hx hb dX8_take_59 (nI_ne0 (by omega) (by omega)) ?_
        refine hw_i (y := nI (i % w)) (nI_rem (by omega) (by omega)) ?_
        refine lv_iadd hx hb dX8_take_60 ?_
        refine lv_aload_n hx hb dX8_take_61 rfl (lv_at hl 1 rfl) ?_
        refine va_get (D := (dC, dI)) (ci := 7) (v := .ref m3) (C := RX8) (T := TX8) (N := 31) hx hb hts hiX8 hown hK hP 0 rfl rfl 7 (by decide) (hts (.fieldLink RX8 24 "RefineRegionsModel" "read" "[Z") (by decide +kernel)) (fun _ h9 => h9) rfl dX8_take_62 ?_
        refine lv_bipush (v := 40) hx hb dX8_take_65 (by decide) ?_
        refine lv_iload_n hx hb dX8_take_67 rfl (lv_at hl 0 rfl) ?_
        refine lv_aload_n hx hb dX8_take_68 rfl (lv_at hl 1 rfl) ?_
        refine va_get (D := (dC, dI)) (ci := 7) (v := .int (nI w)) (C := RX8) (T := TX8) (N := 31) hx hb hts hiX8 hown hK hP 0 rfl rfl 2 (by decide) (hts (.fieldLink RX8 13 "RefineRegionsModel" "width" "I") (by decide +kernel)) (fun _ h9 => h9) rfl dX8_take_69 ?_
        refine lv_idiv hx hb dX8_take_72 (nI_ne0 (by omega) (by omega)) ?_
        refine hw_i (y := nI (i / w)) (nI_div (by omega) (by omega)) ?_
        refine lv_imul hx hb dX8_take_73 ?_
        refine lv_iload_n hx hb dX8_take_74 rfl (lv_at hl 0 rfl) ?_
        refine lv_aload_n hx hb dX8_take_75 rfl (lv_at hl 1 rfl) ?_
        refine va_get (D := (dC, dI)) (ci := 7) (v := .int (nI w)) (C := RX8) (T := TX8) (N := 31) hx hb hts hiX8 hown hK hP 0 rfl rfl 2 (by decide) (hts (.fieldLink RX8 13 "RefineRegionsModel" "width" "I") (by decide +kernel)) (fun _ h9 => h9) rfl dX8_take_76 ?_
        refine lv_irem hx hb dX8_take_79 (nI_ne0 (by omega) (by omega)) ?_
        refine hw_i (y := nI (i % w)) (nI_rem (by omega) (by omega)) ?_
        refine lv_iadd hx hb dX8_take_80 ?_
        refine va_zald hx hb hK hP 1 1 rfl rfl (by rw [show (40 : Int32) = nI 40 from rfl, pk_mul, nI_add]; exact vp_in_nI (by omega) (by decide)) dX8_take_81 ?_
        refine va_zast hx hb hK hP hD hS 2 1 rfl rfl (by rw [show (60 : Int32) = nI 60 from rfl, pk_mul, nI_add]; exact vp_in_nI (by omega) (by decide)) dX8_take_82 (fun H locs hP hD hS => ?_)
        have eA : upd (sp_tkk (fun x y g => sp_pt (nI 60) (nI w) (nI h) g (nI x) (nI y) (sp_px (nI 40) (nI w) (nI h) ff (nI x) (nI y))) w i (fun _ => 0)) ((60 * (nI (i / w))) + (nI (i % w))).toNatClampNeg (vp_nar .boolean (ff ((40 * (nI (i / w))) + (nI (i % w))).toNatClampNeg)) = sp_tkk (fun x y g => sp_pt (nI 60) (nI w) (nI h) g (nI x) (nI y) (sp_px (nI 40) (nI w) (nI h) ff (nI x) (nI y))) w (i + 1) (fun _ => 0) := by rw [hw_nar (h01 _), ← sp_tkk_s (by omega)]; exact sp_tk1 hx9 hy9 hw1 hh1
        rw [eA] at hP hD
        have hP : va_P (dC, dI) vwCl [(m0, .inr (7, [.int 0, .ref m1, .int (nI w), .int (nI h), .int tp, .int ty, .ref m2, .ref m3, .int 1, .int rdg, .int 1, .int (nI w), .int (nI h), .ref m4, .int 0, .int 0, .int p0, .int q0, .int p1, .int q1, .int kp, .ref m5, .ref m6, .int (nI k), .int (nI sk), .int (nI tr), .int (nI co), .long ma, .long mc, .int mt, .int (nI b)])), (m3, .inl (cZ, 1600, .inl ff)), (m4, .inl (cZ, 3600, .inl (sp_tkk (fun x y g => sp_pt (nI 60) (nI w) (nI h) g (nI x) (nI y) (sp_px (nI 40) (nI w) (nI h) ff (nI x) (nI y))) w (i + 1) (fun _ => 0))))] H := hP
        have hD : va_D A [(m0, .inr (7, [.int 0, .ref m1, .int (nI w), .int (nI h), .int tp, .int ty, .ref m2, .ref m3, .int 1, .int rdg, .int 1, .int (nI w), .int (nI h), .ref m4, .int 0, .int 0, .int p0, .int q0, .int p1, .int q1, .int kp, .ref m5, .ref m6, .int (nI k), .int (nI sk), .int (nI tr), .int (nI co), .long ma, .long mc, .int mt, .int (nI b)])), (m3, .inl (cZ, 1600, .inl ff)), (m4, .inl (cZ, 3600, .inl (sp_tkk (fun x y g => sp_pt (nI 60) (nI w) (nI h) g (nI x) (nI y) (sp_px (nI 40) (nI w) (nI h) ff (nI x) (nI y))) w (i + 1) (fun _ => 0))))] := hD
        refine lv_iinc (v := nI (i + 1)) (lv' := [(1, .int (nI (i + 1))), (0, .ref m0)]) hx hb dX8_take_83 hl (k := 0) rfl (nI_1 i) (by decide) rfl (fun ls hl => ?_)
        refine lv_goto (tgt := 28) hx hb dX8_take_86 (by decide) ?_
        exact ih_28 (i + 1) (by omega) (by omega) _ _ hP hD hS ls (lv_sub hl [0, 1] rfl)
  exact loop_28 (w * h + 1) 0 (Nat.zero_le _) (by omega) _ _ hP hD hS ls (lv_sub hl [0, 1] rfl)

set_option maxHeartbeats 4000000 in
set_option maxRecDepth 100000 in
/-- different() -/
theorem c_X8_different (l : Launch) (dC : Nat → ClassId) (dI : Nat → Nat → Nat) (cI cZ cJ : ClassId) (m0 : Nat) (m1 : Nat) (m2 : Nat) (m3 : Nat) (m4 : Nat) (m5 : Nat) (m6 : Nat) (th : Int32) (tp : Int32) (ty : Int32) (rdg : Int32) (rt : Int32) (dx : Int32) (dy : Int32) (p0 : Int32) (q0 : Int32) (p1 : Int32) (q1 : Int32) (kp : Int32) (w : Nat) (h : Nat) (rwd : Nat) (rht : Nat) (k : Nat) (sk : Nat) (tr : Nat) (co : Nat) (b : Nat) (ma : Int64) (mc : Int64) (mt : Int32) (pf : Nat → Int32) (ff : Nat → Int32) (sfb : Bool) (hw1 : w ≤ 40) (hh1 : h ≤ 40) (hw0 : 1 ≤ w) (hpf : sp_01 pf) (hff : sp_01 ff) : Met l yX8_different wsX8_different ({ frames := 0, cells := 0, slots := 0, locals := 0 }) (hw_Ro (dC, dI) vwCl (ty3 cI cZ cJ) [(m0, .inr (7, [.int th, .ref m1, .int (nI w), .int (nI h), .int tp, .int ty, .ref m2, .ref m3, .int (sp_z sfb), .int rdg, .int rt, .int (nI rwd), .int (nI rht), .ref m4, .int dx, .int dy, .int p0, .int q0, .int p1, .int q1, .int kp, .ref m5, .ref m6, .int (nI k), .int (nI sk), .int (nI tr), .int (nI co), .long ma, .long mc, .int mt, .int (nI b)])), (m2, .inl (cZ, 1600, .inl pf)), (m3, .inl (cZ, 1600, .inl ff))] [.ref m0]) (vp_Si (fun r => r = cond sfb (sp_acc2 (fun x y => sp_px (nI 40) (nI w) (nI h) pf (nI x) (nI y) ^^^ sp_px (nI 40) (nI w) (nI h) ff (nI x) (nI y)) w h 0) (-1))) 0 0 (fun _ => False) := by
  refine Met.ofW (cc := cX8_different) (maxL := 4) (ret := (some .int)) (by decide) rfl ?_
  intro pg ev s m args below meth cd s₁ B hml hv
  obtain ⟨rfl, hP, hK, hN, hZ⟩ := hv
  have hx := B.exec
  have hb := B.bytes
  have hr := B.returns
  have hts := atoms_spec (ws := wsX8_different) B.pre
  have hown : s.vm.findClass RX8 = some m.cls := findClass_of_methodNamed B.named
  have hlocks := B.notSynchronized
  have hS : va_S (fun _ => False) s.heap s.heap [] := va_S.rf
  have hk : hw_K (dC, dI) vwCl (ty3 cI cZ cJ) (fun _ => False) s := ⟨hK, hN, hZ⟩
  have hiX8 : ∀ w ∈ u_ws RX8 TX8 31, w ∈ wsX8_different := by decide +kernel
  have hwh : w * h ≤ 1600 := by have q8 := Nat.mul_le_mul hw1 hh1; omega
  have hl := lv_entry ([.ref m0]) (n := 4) (Nat.le_of_ble_eq_true rfl)
  rw [lg_entry_eq]
  generalize (lg_sl ([.ref m0]) ++ List.replicate (4 - (lg_sl ([.ref m0])).length) Slot.unset).toArray = ls at hl ⊢
  have hl : lv_has ls 4 [(0, .ref m0)] := hl
  refine lv_iconst (v := 0) hx hb dX8_different_0 (by decide) ?_
  refine hw_i (y := sp_ack (fun x y => sp_px (nI 40) (nI w) (nI h) pf (nI x) (nI y) ^^^ sp_px (nI 40) (nI w) (nI h) ff (nI x) (nI y)) w 0) (sp_ack_0.symm) ?_
  refine lv_istore_n (lv' := [(1, .int (sp_ack (fun x y => sp_px (nI 40) (nI w) (nI h) pf (nI x) (nI y) ^^^ sp_px (nI 40) (nI w) (nI h) ff (nI x) (nI y)) w 0)), (0, .ref m0)]) hx hb dX8_different_1 rfl hl (by decide) rfl (fun ls hl => ?_)
  refine lv_iconst (v := 0) hx hb dX8_different_2 (by decide) ?_
  refine lv_istore_n (lv' := [(2, .int 0), (1, .int (sp_ack (fun x y => sp_px (nI 40) (nI w) (nI h) pf (nI x) (nI y) ^^^ sp_px (nI 40) (nI w) (nI h) ff (nI x) (nI y)) w 0)), (0, .ref m0)]) hx hb dX8_different_3 rfl hl (by decide) rfl (fun ls hl => ?_)
  have loop_4 : ∀ (fu : Nat) (i : Nat), (i ≤ w * h) → (w * h - i < fu) → ∀ ls : Array Slot, lv_has ls 4 [(2, .int (nI i)), (1, .int (sp_ack (fun x y => sp_px (nI 40) (nI w) (nI h) pf (nI x) (nI y) ^^^ sp_px (nI 40) (nI w) (nI h) ff (nI x) (nI y)) w i)), (0, .ref m0)] → W pg l ev (headSpec wsX8_different ({ frames := 0, cells := 0, slots := 0, locals := 0 })).room s m ([.ref m0]).toArray below meth cd s.heap [] 0 0 (MQ below (vp_Si (fun r => r = cond sfb (sp_acc2 (fun x y => sp_px (nI 40) (nI w) (nI h) pf (nI x) (nI y) ^^^ sp_px (nI 40) (nI w) (nI h) ff (nI x) (nI y)) w h 0) (-1))) ([.ref m0]).toArray s 0 0 (fun _ => False)) (F0 m 4 ls []) := by
    intro fu
    induction fu with
    | zero =>
      intro i hi hm
      omega
    | succ fu ih_4 =>
      intro i hi hm ls hl
      refine lv_iload_n hx hb dX8_different_4 rfl (lv_at hl 0 rfl) ?_
      refine lv_aload_n hx hb dX8_different_5 rfl (lv_at hl 2 rfl) ?_
      refine va_get (D := (dC, dI)) (ci := 7) (v := .int (nI w)) (C := RX8) (T := TX8) (N := 31) hx hb hts hiX8 hown hK hP 0 rfl rfl 2 (by decide) (hts (.fieldLink RX8 13 "RefineRegionsModel" "width" "I") (by decide +kernel)) (fun _ h9 => h9) rfl dX8_different_6 ?_
      refine lv_aload_n hx hb dX8_different_9 rfl (lv_at hl 2 rfl) ?_
      refine va_get (D := (dC, dI)) (ci := 7) (v := .int (nI h)) (C := RX8) (T := TX8) (N := 31) hx hb hts hiX8 hown hK hP 0 rfl rfl 3 (by decide) (hts (.fieldLink RX8 17 "RefineRegionsModel" "height" "I") (by decide +kernel)) (fun _ h9 => h9) rfl dX8_different_10 ?_
      refine lv_imul hx hb dX8_different_13 ?_
      refine lv_icmp_ge (tgt := 63) hx hb dX8_different_14 (by decide) (fun c_14 => ?_) (fun c_14 => ?_)
      · have hi9 : i = w * h := by rw [pk_mul, nI_leI (by omega) (by omega)] at c_14; omega
        refine lv_aload_n hx hb dX8_different_63 rfl (lv_at hl 2 rfl) ?_
        refine va_get (D := (dC, dI)) (ci := 7) (v := .int (sp_z sfb)) (C := RX8) (T := TX8) (N := 31) hx hb hts hiX8 hown hK hP 0 rfl rfl 8 (by decide) (hts (.fieldLink RX8 58 "RefineRegionsModel" "wasRead" "Z") (by decide +kernel)) (fun _ h9 => h9) rfl dX8_different_64 ?_
        refine lv_if_eq (tgt := 74) hx hb dX8_different_67 (by decide) (fun c_67 => ?_) (fun c_67 => ?_)
        · refine lv_iconst (v := (-1)) hx hb dX8_different_74 (by decide) ?_
          exact W.iret (v := (-1)) hx hb hr (fun t ht hW => ⟨(-1), rfl, by rw [sp_z_0.mp c_67]; rfl, ht⟩) hS.2.2 dX8_different_75
        · refine lv_iload_n hx hb dX8_different_70 rfl (lv_at hl 1 rfl) ?_
          refine lv_goto (tgt := 75) hx hb dX8_different_71 (by decide) ?_
          exact W.iret (v := sp_ack (fun x y => sp_px (nI 40) (nI w) (nI h) pf (nI x) (nI y) ^^^ sp_px (nI 40) (nI w) (nI h) ff (nI x) (nI y)) w i) hx hb hr (fun t ht hW => ⟨sp_ack (fun x y => sp_px (nI 40) (nI w) (nI h) pf (nI x) (nI y) ^^^ sp_px (nI 40) (nI w) (nI h) ff (nI x) (nI y)) w i, rfl, by rw [hi9, sp_ack_e (by omega), sp_z_1 c_67]; rfl, ht⟩) hS.2.2 dX8_different_75
      · have hi9 : i < w * h := by rw [pk_mul, nI_leI (by omega) (by omega)] at c_14; omega
        have hx9 : i % w < w := Nat.mod_lt _ (by omega)
        have hy9 : i / w < h := Nat.div_lt_of_lt_mul hi9
        refine lv_bipush (v := 40) hx hb dX8_different_17 (by decide) ?_
        refine lv_iload_n hx hb dX8_different_19 rfl (lv_at hl 0 rfl) ?_
        refine lv_aload_n hx hb dX8_different_20 rfl (lv_at hl 2 rfl) ?_
        refine va_get (D := (dC, dI)) (ci := 7) (v := .int (nI w)) (C := RX8) (T := TX8) (N := 31) hx hb hts hiX8 hown hK hP 0 rfl rfl 2 (by decide) (hts (.fieldLink RX8 13 "RefineRegionsModel" "width" "I") (by decide +kernel)) (fun _ h9 => h9) rfl dX8_different_21 ?_
        refine lv_idiv hx hb dX8_different_24 (nI_ne0 (by omega) (by omega)) ?_
        refine hw_i (y := nI (i / w)) (nI_div (by omega) (by omega)) ?_
        refine lv_imul hx hb dX8_different_25 ?_
        refine lv_iload_n hx hb dX8_different_26 rfl (lv_at hl 0 rfl) ?_
        refine lv_aload_n hx hb dX8_different_27 rfl (lv_at hl 2 rfl) ?_
        refine va_get (D := (dC, dI)) (ci := 7) (v := .int (nI w)) (C := RX8) (T := TX8) (N := 31) hx hb hts hiX8 hown hK hP 0 rfl rfl 2 (by decide) (hts (.fieldLink RX8 13 "RefineRegionsModel" "width" "I") (by decide +kernel)) (fun _ h9 => h9) rfl dX8_different_28 ?_
        refine lv_irem hx hb dX8_different_31 (nI_ne0 (by omega) (by omega)) ?_
        refine hw_i (y := nI (i % w)) (nI_rem (by omega) (by omega)) ?_
        refine lv_iadd hx hb dX8_different_32 ?_
        refine hw_i (y := nI (40 * (i / w) + i % w)) (by rw [show (40 : Int32) = nI 40 from rfl, pk_mul, nI_add]) ?_
        refine lv_istore_n (lv' := [(3, .int (nI (40 * (i / w) + i % w))), (2, .int (nI i)), (1, .int (sp_ack (fun x y => sp_px (nI 40) (nI w) (nI h) pf (nI x) (nI y) ^^^ sp_px (nI 40) (nI w) (nI h) ff (nI x) (nI y)) w i)), (0, .ref m0)]) hx hb dX8_different_33 rfl hl (by decide) rfl (fun ls hl => ?_)
        refine lv_aload_n hx hb dX8_different_34 rfl (lv_at hl 3 rfl) ?_
        refine va_get (D := (dC, dI)) (ci := 7) (v := .ref m2) (C := RX8) (T := TX8) (N := 31) hx hb hts hiX8 hown hK hP 0 rfl rfl 6 (by decide) (hts (.fieldLink RX8 20 "RefineRegionsModel" "picture" "[Z") (by decide +kernel)) (fun _ h9 => h9) rfl dX8_different_35 ?_
        refine lv_iload_n hx hb dX8_different_38 rfl (lv_at hl 0 rfl) ?_
        refine va_zald hx hb hK hP 1 1 rfl rfl (vp_in_nI (by omega) (by decide)) dX8_different_39 ?_
        refine hw_i (y := sp_px (nI 40) (nI w) (nI h) pf (nI (i % w)) (nI (i / w))) (by rw [sp_px_n hx9 hy9 hw1 hh1, nI_clamp (by omega), Nat.mul_comm 40]) ?_
        refine lv_aload_n hx hb dX8_different_40 rfl (lv_at hl 3 rfl) ?_
        refine va_get (D := (dC, dI)) (ci := 7) (v := .ref m3) (C := RX8) (T := TX8) (N := 31) hx hb hts hiX8 hown hK hP 0 rfl rfl 7 (by decide) (hts (.fieldLink RX8 24 "RefineRegionsModel" "read" "[Z") (by decide +kernel)) (fun _ h9 => h9) rfl dX8_different_41 ?_
        refine lv_iload_n hx hb dX8_different_44 rfl (lv_at hl 0 rfl) ?_
        refine va_zald hx hb hK hP 2 1 rfl rfl (vp_in_nI (by omega) (by decide)) dX8_different_45 ?_
        refine hw_i (y := sp_px (nI 40) (nI w) (nI h) ff (nI (i % w)) (nI (i / w))) (by rw [sp_px_n hx9 hy9 hw1 hh1, nI_clamp (by omega), Nat.mul_comm 40]) ?_
        refine lv_icmp_eq (tgt := 55) hx hb dX8_different_46 (by decide) (fun c_46 => ?_) (fun c_46 => ?_)
        · refine lv_iload_n hx hb dX8_different_55 rfl (lv_at hl 2 rfl) ?_
          refine hw_i (y := sp_ack (fun x y => sp_px (nI 40) (nI w) (nI h) pf (nI x) (nI y) ^^^ sp_px (nI 40) (nI w) (nI h) ff (nI x) (nI y)) w (i + 1)) (by rw [← sp_ack_s (by omega)]; show _ = _ + (sp_px (nI 40) (nI w) (nI h) pf (nI (i % w)) (nI (i / w)) ^^^ sp_px (nI 40) (nI w) (nI h) ff (nI (i % w)) (nI (i / w))); rw [sp_xor_eq c_46, Int32.add_zero]) ?_
          refine lv_istore_n (lv' := [(1, .int (sp_ack (fun x y => sp_px (nI 40) (nI w) (nI h) pf (nI x) (nI y) ^^^ sp_px (nI 40) (nI w) (nI h) ff (nI x) (nI y)) w (i + 1))), (3, .int (nI (40 * (i / w) + i % w))), (2, .int (nI i)), (0, .ref m0)]) hx hb dX8_different_56 rfl hl (by decide) rfl (fun ls hl => ?_)
          refine lv_iinc (v := nI (i + 1)) (lv' := [(2, .int (nI (i + 1))), (1, .int (sp_ack (fun x y => sp_px (nI 40) (nI w) (nI h) pf (nI x) (nI y) ^^^ sp_px (nI 40) (nI w) (nI h) ff (nI x) (nI y)) w (i + 1))), (3, .int (nI (40 * (i / w) + i % w))), (0, .ref m0)]) hx hb dX8_different_57 hl (k := 2) rfl (nI_1 i) (by decide) rfl (fun ls hl => ?_)
          refine lv_goto (tgt := 4) hx hb dX8_different_60 (by decide) ?_
          exact ih_4 (i + 1) (by omega) (by omega) ls (lv_sub hl [0, 1, 3] rfl)
        · refine lv_iload_n hx hb dX8_different_49 rfl (lv_at hl 2 rfl) ?_
          refine lv_iconst (v := 1) hx hb dX8_different_50 (by decide) ?_
          refine lv_iadd hx hb dX8_different_51 ?_
          refine hw_i (y := sp_ack (fun x y => sp_px (nI 40) (nI w) (nI h) pf (nI x) (nI y) ^^^ sp_px (nI 40) (nI w) (nI h) ff (nI x) (nI y)) w (i + 1)) (by rw [← sp_ack_s (by omega)]; show _ = _ + (sp_px (nI 40) (nI w) (nI h) pf (nI (i % w)) (nI (i / w)) ^^^ sp_px (nI 40) (nI w) (nI h) ff (nI (i % w)) (nI (i / w))); rw [sp_xor_ne (sp_px_02 hpf _ _) (sp_px_02 hff _ _) c_46]) ?_
          refine lv_goto (tgt := 56) hx hb dX8_different_52 (by decide) ?_
          refine lv_istore_n (lv' := [(1, .int (sp_ack (fun x y => sp_px (nI 40) (nI w) (nI h) pf (nI x) (nI y) ^^^ sp_px (nI 40) (nI w) (nI h) ff (nI x) (nI y)) w (i + 1))), (3, .int (nI (40 * (i / w) + i % w))), (2, .int (nI i)), (0, .ref m0)]) hx hb dX8_different_56 rfl hl (by decide) rfl (fun ls hl => ?_)
          refine lv_iinc (v := nI (i + 1)) (lv' := [(2, .int (nI (i + 1))), (1, .int (sp_ack (fun x y => sp_px (nI 40) (nI w) (nI h) pf (nI x) (nI y) ^^^ sp_px (nI 40) (nI w) (nI h) ff (nI x) (nI y)) w (i + 1))), (3, .int (nI (40 * (i / w) + i % w))), (0, .ref m0)]) hx hb dX8_different_57 hl (k := 2) rfl (nI_1 i) (by decide) rfl (fun ls hl => ?_)
          refine lv_goto (tgt := 4) hx hb dX8_different_60 (by decide) ?_
          exact ih_4 (i + 1) (by omega) (by omega) ls (lv_sub hl [0, 1, 3] rfl)
  exact loop_4 (w * h + 1) 0 (Nat.zero_le _) (by omega) ls (lv_sub hl [0, 1, 2] rfl)

set_option maxHeartbeats 4000000 in
set_option maxRecDepth 100000 in
/-- told(0) -/
theorem c_X8_told_0 (l : Launch) (dC : Nat → ClassId) (dI : Nat → Nat → Nat) (cI cZ cJ : ClassId) (m0 : Nat) (m1 : Nat) (m2 : Nat) (m3 : Nat) (m4 : Nat) (m5 : Nat) (m6 : Nat) (th : Int32) (tp : Int32) (ty : Int32) (sf : Int32) (rdg : Int32) (rt : Int32) (dx : Int32) (dy : Int32) (p0 : Int32) (q0 : Int32) (p1 : Int32) (q1 : Int32) (kp : Int32) (w : Nat) (h : Nat) (rwd : Nat) (rht : Nat) (k : Nat) (sk : Nat) (tr : Nat) (co : Nat) (b : Nat) (ma : Int64) (mc : Int64) (mt : Int32) (sz : Nat) : Met l yX8_told wsX8_told ({ frames := 0, cells := 0, slots := 0, locals := 0 }) (hw_Pre (dC, dI) vwCl (ty3 cI cZ cJ) [(m0, .inr (7, [.int th, .ref m1, .int (nI w), .int (nI h), .int tp, .int ty, .ref m2, .ref m3, .int sf, .int rdg, .int rt, .int (nI rwd), .int (nI rht), .ref m4, .int dx, .int dy, .int p0, .int q0, .int p1, .int q1, .int kp, .ref m5, .ref m6, .int (nI k), .int (nI sk), .int (nI tr), .int (nI co), .long ma, .long mc, .int mt, .int (nI b)]))] sz [.ref m0, .int 0]) (va_Qi (fun (r : Int32) (_ : Unit) => r = nI k) (hw_at (dC, dI) vwCl (ty3 cI cZ cJ) (fun _ : Unit => [(m0, .inr (7, [.int 0, .ref m1, .int (nI w), .int (nI h), .int tp, .int ty, .ref m2, .ref m3, .int sf, .int rdg, .int rt, .int (nI rwd), .int (nI rht), .ref m4, .int dx, .int dy, .int p0, .int q0, .int p1, .int q1, .int kp, .ref m5, .ref m6, .int (nI k), .int (nI sk), .int (nI tr), .int (nI co), .long ma, .long mc, .int mt, .int (nI b)]))]) (va_A [(m0, .inr (7, [.int th, .ref m1, .int (nI w), .int (nI h), .int tp, .int ty, .ref m2, .ref m3, .int sf, .int rdg, .int rt, .int (nI rwd), .int (nI rht), .ref m4, .int dx, .int dy, .int p0, .int q0, .int p1, .int q1, .int kp, .ref m5, .ref m6, .int (nI k), .int (nI sk), .int (nI tr), .int (nI co), .long ma, .long mc, .int mt, .int (nI b)]))] sz)) (va_A [(m0, .inr (7, [.int th, .ref m1, .int (nI w), .int (nI h), .int tp, .int ty, .ref m2, .ref m3, .int sf, .int rdg, .int rt, .int (nI rwd), .int (nI rht), .ref m4, .int dx, .int dy, .int p0, .int q0, .int p1, .int q1, .int kp, .ref m5, .ref m6, .int (nI k), .int (nI sk), .int (nI tr), .int (nI co), .long ma, .long mc, .int mt, .int (nI b)]))] sz)) 0 0 (va_A [(m0, .inr (7, [.int th, .ref m1, .int (nI w), .int (nI h), .int tp, .int ty, .ref m2, .ref m3, .int sf, .int rdg, .int rt, .int (nI rwd), .int (nI rht), .ref m4, .int dx, .int dy, .int p0, .int q0, .int p1, .int q1, .int kp, .ref m5, .ref m6, .int (nI k), .int (nI sk), .int (nI tr), .int (nI co), .long ma, .long mc, .int mt, .int (nI b)]))] sz) := by
  refine Met.ofW (cc := cX8_told) (maxL := 2) (ret := (some .int)) (by decide) rfl ?_
  intro pg ev s m args below meth cd s₁ B hml hv
  obtain ⟨rfl, hsz, hP, hK, hN, hZ, hD0⟩ := hv
  have hx := B.exec
  have hb := B.bytes
  have hr := B.returns
  have hts := atoms_spec (ws := wsX8_told) B.pre
  have hown : s.vm.findClass RX8 = some m.cls := findClass_of_methodNamed B.named
  have hlocks := B.notSynchronized
  subst hsz
  have hD := hD0.self (sz := s.heap.size)
  generalize hAe : va_A [(m0, .inr (7, [.int th, .ref m1, .int (nI w), .int (nI h), .int tp, .int ty, .ref m2, .ref m3, .int sf, .int rdg, .int rt, .int (nI rwd), .int (nI rht), .ref m4, .int dx, .int dy, .int p0, .int q0, .int p1, .int q1, .int kp, .ref m5, .ref m6, .int (nI k), .int (nI sk), .int (nI tr), .int (nI co), .long ma, .long mc, .int mt, .int (nI b)]))] s.heap.size = A at hD hZ ⊢
  have hA : ∀ q : Nat, s.heap.size ≤ q → A q := fun q h => by rw [← hAe]; exact Or.inr h
  have hS : va_S A s.heap s.heap [] := va_S.rf
  have hk : hw_K (dC, dI) vwCl (ty3 cI cZ cJ) A s := ⟨hK, hN, hZ⟩
  have hiX8 : ∀ w ∈ u_ws RX8 TX8 31, w ∈ wsX8_told := by decide +kernel
  have hl := lv_entry ([.ref m0, .int 0]) (n := 2) (Nat.le_of_ble_eq_true rfl)
  rw [lg_entry_eq]
  generalize (lg_sl ([.ref m0, .int 0]) ++ List.replicate (2 - (lg_sl ([.ref m0, .int 0])).length) Slot.unset).toArray = ls at hl ⊢
  have hl : lv_has ls 2 [(0, .ref m0), (1, .int 0)] := hl
  refine lv_aload_n hx hb dX8_told_0 rfl (lv_at hl 0 rfl) ?_
  refine lv_iload_n hx hb dX8_told_1 rfl (lv_at hl 1 rfl) ?_
  refine lv_if_lt (tgt := 10) hx hb dX8_told_2 (by decide) (fun c9 => absurd c9 (by decide)) (fun _ => ?_)
  refine lv_iload_n hx hb dX8_told_5 rfl (lv_at hl 1 rfl) ?_
  refine lv_iconst (v := 5) hx hb dX8_told_6 (by decide) ?_
  refine lv_icmp_le (tgt := 14) hx hb dX8_told_7 (by decide) (fun _ => ?_) (fun c9 => absurd (by decide) c9)
  refine lv_iconst (v := 0) hx hb dX8_told_14 (by decide) ?_
  refine va_put (D := (dC, dI)) (ci := 7) (v := .int 0) (ty := .int) (C := RX8) (T := TX8) (N := 31) hx hb hts hiX8 tyX8 tyX8_ok nmX8 hown hK hP hD hS 0 rfl rfl 0 (by decide) (hts (.fieldLink RX8 48 "RefineRegionsModel" "thrown" "I") (by decide +kernel)) (fun _ h9 => h9) rfl (by decide +kernel) rfl rfl (Nat.le_of_ble_eq_true rfl) dX8_told_15 (fun H locs hP hD hS => ?_)
  have hP : va_P (dC, dI) vwCl [(m0, .inr (7, [.int 0, .ref m1, .int (nI w), .int (nI h), .int tp, .int ty, .ref m2, .ref m3, .int sf, .int rdg, .int rt, .int (nI rwd), .int (nI rht), .ref m4, .int dx, .int dy, .int p0, .int q0, .int p1, .int q1, .int kp, .ref m5, .ref m6, .int (nI k), .int (nI sk), .int (nI tr), .int (nI co), .long ma, .long mc, .int mt, .int (nI b)]))] H := hP
  have hD : va_D A [(m0, .inr (7, [.int 0, .ref m1, .int (nI w), .int (nI h), .int tp, .int ty, .ref m2, .ref m3, .int sf, .int rdg, .int rt, .int (nI rwd), .int (nI rht), .ref m4, .int dx, .int dy, .int p0, .int q0, .int p1, .int q1, .int kp, .ref m5, .ref m6, .int (nI k), .int (nI sk), .int (nI tr), .int (nI co), .long ma, .long mc, .int mt, .int (nI b)]))] := hD
  refine lv_aload_n hx hb dX8_told_18 rfl (lv_at hl 0 rfl) ?_
  refine va_get (D := (dC, dI)) (ci := 7) (v := .int 0) (C := RX8) (T := TX8) (N := 31) hx hb hts hiX8 hown hK hP 0 rfl rfl 0 (by decide) (hts (.fieldLink RX8 48 "RefineRegionsModel" "thrown" "I") (by decide +kernel)) (fun _ h9 => h9) rfl dX8_told_19 ?_
  refine lv_if_le (tgt := 27) hx hb dX8_told_22 (by decide) (fun _ => ?_) (fun c9 => absurd (by decide) c9)
  refine lv_iload_n hx hb dX8_told_27 rfl (lv_at hl 1 rfl) ?_
  refine lv_if_ne (tgt := 38) hx hb dX8_told_28 (by decide) (fun c9 => absurd c9 (by decide)) (fun _ => ?_)
  refine lv_aload_n hx hb dX8_told_31 rfl (lv_at hl 0 rfl) ?_
  refine va_get (D := (dC, dI)) (ci := 7) (v := .int (nI k)) (C := RX8) (T := TX8) (N := 31) hx hb hts hiX8 hown hK hP 0 rfl rfl 23 (by decide) (hts (.fieldLink RX8 100 "RefineRegionsModel" "many" "I") (by decide +kernel)) (fun _ h9 => h9) rfl dX8_told_32 ?_
  refine lv_goto (tgt := 90) hx hb dX8_told_35 (by decide) ?_
  have hP9 := hP
  have hD9 := hD
  exact W.iret (v := nI k) hx hb hr (fun t ht hW => ⟨⟨nI k, (), rfl, rfl, by rw [ht]; exact hP9, va_K.moved hW.alike hK, hD9⟩, hS.F ht⟩) hS.2.2 dX8_told_90

set_option maxHeartbeats 4000000 in
set_option maxRecDepth 100000 in
/-- told(1) -/
theorem c_X8_told_1 (l : Launch) (dC : Nat → ClassId) (dI : Nat → Nat → Nat) (cI cZ cJ : ClassId) (m0 : Nat) (m1 : Nat) (m2 : Nat) (m3 : Nat) (m4 : Nat) (m5 : Nat) (m6 : Nat) (th : Int32) (tp : Int32) (ty : Int32) (sf : Int32) (rdg : Int32) (rt : Int32) (dx : Int32) (dy : Int32) (p0 : Int32) (q0 : Int32) (p1 : Int32) (q1 : Int32) (kp : Int32) (w : Nat) (h : Nat) (rwd : Nat) (rht : Nat) (k : Nat) (sk : Nat) (tr : Nat) (co : Nat) (b : Nat) (ma : Int64) (mc : Int64) (mt : Int32) (sz : Nat) : Met l yX8_told wsX8_told ({ frames := 0, cells := 0, slots := 0, locals := 0 }) (hw_Pre (dC, dI) vwCl (ty3 cI cZ cJ) [(m0, .inr (7, [.int th, .ref m1, .int (nI w), .int (nI h), .int tp, .int ty, .ref m2, .ref m3, .int sf, .int rdg, .int rt, .int (nI rwd), .int (nI rht), .ref m4, .int dx, .int dy, .int p0, .int q0, .int p1, .int q1, .int kp, .ref m5, .ref m6, .int (nI k), .int (nI sk), .int (nI tr), .int (nI co), .long ma, .long mc, .int mt, .int (nI b)]))] sz [.ref m0, .int 1]) (va_Qi (fun (r : Int32) (_ : Unit) => r = nI sk) (hw_at (dC, dI) vwCl (ty3 cI cZ cJ) (fun _ : Unit => [(m0, .inr (7, [.int 0, .ref m1, .int (nI w), .int (nI h), .int tp, .int ty, .ref m2, .ref m3, .int sf, .int rdg, .int rt, .int (nI rwd), .int (nI rht), .ref m4, .int dx, .int dy, .int p0, .int q0, .int p1, .int q1, .int kp, .ref m5, .ref m6, .int (nI k), .int (nI sk), .int (nI tr), .int (nI co), .long ma, .long mc, .int mt, .int (nI b)]))]) (va_A [(m0, .inr (7, [.int th, .ref m1, .int (nI w), .int (nI h), .int tp, .int ty, .ref m2, .ref m3, .int sf, .int rdg, .int rt, .int (nI rwd), .int (nI rht), .ref m4, .int dx, .int dy, .int p0, .int q0, .int p1, .int q1, .int kp, .ref m5, .ref m6, .int (nI k), .int (nI sk), .int (nI tr), .int (nI co), .long ma, .long mc, .int mt, .int (nI b)]))] sz)) (va_A [(m0, .inr (7, [.int th, .ref m1, .int (nI w), .int (nI h), .int tp, .int ty, .ref m2, .ref m3, .int sf, .int rdg, .int rt, .int (nI rwd), .int (nI rht), .ref m4, .int dx, .int dy, .int p0, .int q0, .int p1, .int q1, .int kp, .ref m5, .ref m6, .int (nI k), .int (nI sk), .int (nI tr), .int (nI co), .long ma, .long mc, .int mt, .int (nI b)]))] sz)) 0 0 (va_A [(m0, .inr (7, [.int th, .ref m1, .int (nI w), .int (nI h), .int tp, .int ty, .ref m2, .ref m3, .int sf, .int rdg, .int rt, .int (nI rwd), .int (nI rht), .ref m4, .int dx, .int dy, .int p0, .int q0, .int p1, .int q1, .int kp, .ref m5, .ref m6, .int (nI k), .int (nI sk), .int (nI tr), .int (nI co), .long ma, .long mc, .int mt, .int (nI b)]))] sz) := by
  refine Met.ofW (cc := cX8_told) (maxL := 2) (ret := (some .int)) (by decide) rfl ?_
  intro pg ev s m args below meth cd s₁ B hml hv
  obtain ⟨rfl, hsz, hP, hK, hN, hZ, hD0⟩ := hv
  have hx := B.exec
  have hb := B.bytes
  have hr := B.returns
  have hts := atoms_spec (ws := wsX8_told) B.pre
  have hown : s.vm.findClass RX8 = some m.cls := findClass_of_methodNamed B.named
  have hlocks := B.notSynchronized
  subst hsz
  have hD := hD0.self (sz := s.heap.size)
  generalize hAe : va_A [(m0, .inr (7, [.int th, .ref m1, .int (nI w), .int (nI h), .int tp, .int ty, .ref m2, .ref m3, .int sf, .int rdg, .int rt, .int (nI rwd), .int (nI rht), .ref m4, .int dx, .int dy, .int p0, .int q0, .int p1, .int q1, .int kp, .ref m5, .ref m6, .int (nI k), .int (nI sk), .int (nI tr), .int (nI co), .long ma, .long mc, .int mt, .int (nI b)]))] s.heap.size = A at hD hZ ⊢
  have hA : ∀ q : Nat, s.heap.size ≤ q → A q := fun q h => by rw [← hAe]; exact Or.inr h
  have hS : va_S A s.heap s.heap [] := va_S.rf
  have hk : hw_K (dC, dI) vwCl (ty3 cI cZ cJ) A s := ⟨hK, hN, hZ⟩
  have hiX8 : ∀ w ∈ u_ws RX8 TX8 31, w ∈ wsX8_told := by decide +kernel
  have hl := lv_entry ([.ref m0, .int 1]) (n := 2) (Nat.le_of_ble_eq_true rfl)
  rw [lg_entry_eq]
  generalize (lg_sl ([.ref m0, .int 1]) ++ List.replicate (2 - (lg_sl ([.ref m0, .int 1])).length) Slot.unset).toArray = ls at hl ⊢
  have hl : lv_has ls 2 [(0, .ref m0), (1, .int 1)] := hl
  refine lv_aload_n hx hb dX8_told_0 rfl (lv_at hl 0 rfl) ?_
  refine lv_iload_n hx hb dX8_told_1 rfl (lv_at hl 1 rfl) ?_
  refine lv_if_lt (tgt := 10) hx hb dX8_told_2 (by decide) (fun c9 => absurd c9 (by decide)) (fun _ => ?_)
  refine lv_iload_n hx hb dX8_told_5 rfl (lv_at hl 1 rfl) ?_
  refine lv_iconst (v := 5) hx hb dX8_told_6 (by decide) ?_
  refine lv_icmp_le (tgt := 14) hx hb dX8_told_7 (by decide) (fun _ => ?_) (fun c9 => absurd (by decide) c9)
  refine lv_iconst (v := 0) hx hb dX8_told_14 (by decide) ?_
  refine va_put (D := (dC, dI)) (ci := 7) (v := .int 0) (ty := .int) (C := RX8) (T := TX8) (N := 31) hx hb hts hiX8 tyX8 tyX8_ok nmX8 hown hK hP hD hS 0 rfl rfl 0 (by decide) (hts (.fieldLink RX8 48 "RefineRegionsModel" "thrown" "I") (by decide +kernel)) (fun _ h9 => h9) rfl (by decide +kernel) rfl rfl (Nat.le_of_ble_eq_true rfl) dX8_told_15 (fun H locs hP hD hS => ?_)
  have hP : va_P (dC, dI) vwCl [(m0, .inr (7, [.int 0, .ref m1, .int (nI w), .int (nI h), .int tp, .int ty, .ref m2, .ref m3, .int sf, .int rdg, .int rt, .int (nI rwd), .int (nI rht), .ref m4, .int dx, .int dy, .int p0, .int q0, .int p1, .int q1, .int kp, .ref m5, .ref m6, .int (nI k), .int (nI sk), .int (nI tr), .int (nI co), .long ma, .long mc, .int mt, .int (nI b)]))] H := hP
  have hD : va_D A [(m0, .inr (7, [.int 0, .ref m1, .int (nI w), .int (nI h), .int tp, .int ty, .ref m2, .ref m3, .int sf, .int rdg, .int rt, .int (nI rwd), .int (nI rht), .ref m4, .int dx, .int dy, .int p0, .int q0, .int p1, .int q1, .int kp, .ref m5, .ref m6, .int (nI k), .int (nI sk), .int (nI tr), .int (nI co), .long ma, .long mc, .int mt, .int (nI b)]))] := hD
  refine lv_aload_n hx hb dX8_told_18 rfl (lv_at hl 0 rfl) ?_
  refine va_get (D := (dC, dI)) (ci := 7) (v := .int 0) (C := RX8) (T := TX8) (N := 31) hx hb hts hiX8 hown hK hP 0 rfl rfl 0 (by decide) (hts (.fieldLink RX8 48 "RefineRegionsModel" "thrown" "I") (by decide +kernel)) (fun _ h9 => h9) rfl dX8_told_19 ?_
  refine lv_if_le (tgt := 27) hx hb dX8_told_22 (by decide) (fun _ => ?_) (fun c9 => absurd (by decide) c9)
  refine lv_iload_n hx hb dX8_told_27 rfl (lv_at hl 1 rfl) ?_
  refine lv_if_ne (tgt := 38) hx hb dX8_told_28 (by decide) (fun _ => ?_) (fun c9 => absurd c9 (by decide))
  refine lv_iload_n hx hb dX8_told_38 rfl (lv_at hl 1 rfl) ?_
  refine lv_iconst (v := 1) hx hb dX8_told_39 (by decide) ?_
  refine lv_icmp_ne (tgt := 50) hx hb dX8_told_40 (by decide) (fun c9 => absurd c9 (by decide)) (fun _ => ?_)
  refine lv_aload_n hx hb dX8_told_43 rfl (lv_at hl 0 rfl) ?_
  refine va_get (D := (dC, dI)) (ci := 7) (v := .int (nI sk)) (C := RX8) (T := TX8) (N := 31) hx hb hts hiX8 hown hK hP 0 rfl rfl 24 (by decide) (hts (.fieldLink RX8 150 "RefineRegionsModel" "skipped" "I") (by decide +kernel)) (fun _ h9 => h9) rfl dX8_told_44 ?_
  refine lv_goto (tgt := 90) hx hb dX8_told_47 (by decide) ?_
  have hP9 := hP
  have hD9 := hD
  exact W.iret (v := nI sk) hx hb hr (fun t ht hW => ⟨⟨nI sk, (), rfl, rfl, by rw [ht]; exact hP9, va_K.moved hW.alike hK, hD9⟩, hS.F ht⟩) hS.2.2 dX8_told_90

set_option maxHeartbeats 4000000 in
set_option maxRecDepth 100000 in
/-- told(2) -/
theorem c_X8_told_2 (l : Launch) (dC : Nat → ClassId) (dI : Nat → Nat → Nat) (cI cZ cJ : ClassId) (m0 : Nat) (m1 : Nat) (m2 : Nat) (m3 : Nat) (m4 : Nat) (m5 : Nat) (m6 : Nat) (th : Int32) (tp : Int32) (ty : Int32) (sf : Int32) (rdg : Int32) (rt : Int32) (dx : Int32) (dy : Int32) (p0 : Int32) (q0 : Int32) (p1 : Int32) (q1 : Int32) (kp : Int32) (w : Nat) (h : Nat) (rwd : Nat) (rht : Nat) (k : Nat) (sk : Nat) (tr : Nat) (co : Nat) (b : Nat) (ma : Int64) (mc : Int64) (mt : Int32) (sz : Nat) : Met l yX8_told wsX8_told ({ frames := 0, cells := 0, slots := 0, locals := 0 }) (hw_Pre (dC, dI) vwCl (ty3 cI cZ cJ) [(m0, .inr (7, [.int th, .ref m1, .int (nI w), .int (nI h), .int tp, .int ty, .ref m2, .ref m3, .int sf, .int rdg, .int rt, .int (nI rwd), .int (nI rht), .ref m4, .int dx, .int dy, .int p0, .int q0, .int p1, .int q1, .int kp, .ref m5, .ref m6, .int (nI k), .int (nI sk), .int (nI tr), .int (nI co), .long ma, .long mc, .int mt, .int (nI b)]))] sz [.ref m0, .int 2]) (va_Qi (fun (r : Int32) (_ : Unit) => r = nI tr) (hw_at (dC, dI) vwCl (ty3 cI cZ cJ) (fun _ : Unit => [(m0, .inr (7, [.int 0, .ref m1, .int (nI w), .int (nI h), .int tp, .int ty, .ref m2, .ref m3, .int sf, .int rdg, .int rt, .int (nI rwd), .int (nI rht), .ref m4, .int dx, .int dy, .int p0, .int q0, .int p1, .int q1, .int kp, .ref m5, .ref m6, .int (nI k), .int (nI sk), .int (nI tr), .int (nI co), .long ma, .long mc, .int mt, .int (nI b)]))]) (va_A [(m0, .inr (7, [.int th, .ref m1, .int (nI w), .int (nI h), .int tp, .int ty, .ref m2, .ref m3, .int sf, .int rdg, .int rt, .int (nI rwd), .int (nI rht), .ref m4, .int dx, .int dy, .int p0, .int q0, .int p1, .int q1, .int kp, .ref m5, .ref m6, .int (nI k), .int (nI sk), .int (nI tr), .int (nI co), .long ma, .long mc, .int mt, .int (nI b)]))] sz)) (va_A [(m0, .inr (7, [.int th, .ref m1, .int (nI w), .int (nI h), .int tp, .int ty, .ref m2, .ref m3, .int sf, .int rdg, .int rt, .int (nI rwd), .int (nI rht), .ref m4, .int dx, .int dy, .int p0, .int q0, .int p1, .int q1, .int kp, .ref m5, .ref m6, .int (nI k), .int (nI sk), .int (nI tr), .int (nI co), .long ma, .long mc, .int mt, .int (nI b)]))] sz)) 0 0 (va_A [(m0, .inr (7, [.int th, .ref m1, .int (nI w), .int (nI h), .int tp, .int ty, .ref m2, .ref m3, .int sf, .int rdg, .int rt, .int (nI rwd), .int (nI rht), .ref m4, .int dx, .int dy, .int p0, .int q0, .int p1, .int q1, .int kp, .ref m5, .ref m6, .int (nI k), .int (nI sk), .int (nI tr), .int (nI co), .long ma, .long mc, .int mt, .int (nI b)]))] sz) := by
  refine Met.ofW (cc := cX8_told) (maxL := 2) (ret := (some .int)) (by decide) rfl ?_
  intro pg ev s m args below meth cd s₁ B hml hv
  obtain ⟨rfl, hsz, hP, hK, hN, hZ, hD0⟩ := hv
  have hx := B.exec
  have hb := B.bytes
  have hr := B.returns
  have hts := atoms_spec (ws := wsX8_told) B.pre
  have hown : s.vm.findClass RX8 = some m.cls := findClass_of_methodNamed B.named
  have hlocks := B.notSynchronized
  subst hsz
  have hD := hD0.self (sz := s.heap.size)
  generalize hAe : va_A [(m0, .inr (7, [.int th, .ref m1, .int (nI w), .int (nI h), .int tp, .int ty, .ref m2, .ref m3, .int sf, .int rdg, .int rt, .int (nI rwd), .int (nI rht), .ref m4, .int dx, .int dy, .int p0, .int q0, .int p1, .int q1, .int kp, .ref m5, .ref m6, .int (nI k), .int (nI sk), .int (nI tr), .int (nI co), .long ma, .long mc, .int mt, .int (nI b)]))] s.heap.size = A at hD hZ ⊢
  have hA : ∀ q : Nat, s.heap.size ≤ q → A q := fun q h => by rw [← hAe]; exact Or.inr h
  have hS : va_S A s.heap s.heap [] := va_S.rf
  have hk : hw_K (dC, dI) vwCl (ty3 cI cZ cJ) A s := ⟨hK, hN, hZ⟩
  have hiX8 : ∀ w ∈ u_ws RX8 TX8 31, w ∈ wsX8_told := by decide +kernel
  have hl := lv_entry ([.ref m0, .int 2]) (n := 2) (Nat.le_of_ble_eq_true rfl)
  rw [lg_entry_eq]
  generalize (lg_sl ([.ref m0, .int 2]) ++ List.replicate (2 - (lg_sl ([.ref m0, .int 2])).length) Slot.unset).toArray = ls at hl ⊢
  have hl : lv_has ls 2 [(0, .ref m0), (1, .int 2)] := hl
  refine lv_aload_n hx hb dX8_told_0 rfl (lv_at hl 0 rfl) ?_
  refine lv_iload_n hx hb dX8_told_1 rfl (lv_at hl 1 rfl) ?_
  refine lv_if_lt (tgt := 10) hx hb dX8_told_2 (by decide) (fun c9 => absurd c9 (by decide)) (fun _ => ?_)
  refine lv_iload_n hx hb dX8_told_5 rfl (lv_at hl 1 rfl) ?_
  refine lv_iconst (v := 5) hx hb dX8_told_6 (by decide) ?_
  refine lv_icmp_le (tgt := 14) hx hb dX8_told_7 (by decide) (fun _ => ?_) (fun c9 => absurd (by decide) c9)
  refine lv_iconst (v := 0) hx hb dX8_told_14 (by decide) ?_
  refine va_put (D := (dC, dI)) (ci := 7) (v := .int 0) (ty := .int) (C := RX8) (T := TX8) (N := 31) hx hb hts hiX8 tyX8 tyX8_ok nmX8 hown hK hP hD hS 0 rfl rfl 0 (by decide) (hts (.fieldLink RX8 48 "RefineRegionsModel" "thrown" "I") (by decide +kernel)) (fun _ h9 => h9) rfl (by decide +kernel) rfl rfl (Nat.le_of_ble_eq_true rfl) dX8_told_15 (fun H locs hP hD hS => ?_)
  have hP : va_P (dC, dI) vwCl [(m0, .inr (7, [.int 0, .ref m1, .int (nI w), .int (nI h), .int tp, .int ty, .ref m2, .ref m3, .int sf, .int rdg, .int rt, .int (nI rwd), .int (nI rht), .ref m4, .int dx, .int dy, .int p0, .int q0, .int p1, .int q1, .int kp, .ref m5, .ref m6, .int (nI k), .int (nI sk), .int (nI tr), .int (nI co), .long ma, .long mc, .int mt, .int (nI b)]))] H := hP
  have hD : va_D A [(m0, .inr (7, [.int 0, .ref m1, .int (nI w), .int (nI h), .int tp, .int ty, .ref m2, .ref m3, .int sf, .int rdg, .int rt, .int (nI rwd), .int (nI rht), .ref m4, .int dx, .int dy, .int p0, .int q0, .int p1, .int q1, .int kp, .ref m5, .ref m6, .int (nI k), .int (nI sk), .int (nI tr), .int (nI co), .long ma, .long mc, .int mt, .int (nI b)]))] := hD
  refine lv_aload_n hx hb dX8_told_18 rfl (lv_at hl 0 rfl) ?_
  refine va_get (D := (dC, dI)) (ci := 7) (v := .int 0) (C := RX8) (T := TX8) (N := 31) hx hb hts hiX8 hown hK hP 0 rfl rfl 0 (by decide) (hts (.fieldLink RX8 48 "RefineRegionsModel" "thrown" "I") (by decide +kernel)) (fun _ h9 => h9) rfl dX8_told_19 ?_
  refine lv_if_le (tgt := 27) hx hb dX8_told_22 (by decide) (fun _ => ?_) (fun c9 => absurd (by decide) c9)
  refine lv_iload_n hx hb dX8_told_27 rfl (lv_at hl 1 rfl) ?_
  refine lv_if_ne (tgt := 38) hx hb dX8_told_28 (by decide) (fun _ => ?_) (fun c9 => absurd c9 (by decide))
  refine lv_iload_n hx hb dX8_told_38 rfl (lv_at hl 1 rfl) ?_
  refine lv_iconst (v := 1) hx hb dX8_told_39 (by decide) ?_
  refine lv_icmp_ne (tgt := 50) hx hb dX8_told_40 (by decide) (fun _ => ?_) (fun c9 => absurd c9 (by decide))
  refine lv_iload_n hx hb dX8_told_50 rfl (lv_at hl 1 rfl) ?_
  refine lv_iconst (v := 2) hx hb dX8_told_51 (by decide) ?_
  refine lv_icmp_ne (tgt := 62) hx hb dX8_told_52 (by decide) (fun c9 => absurd c9 (by decide)) (fun _ => ?_)
  refine lv_aload_n hx hb dX8_told_55 rfl (lv_at hl 0 rfl) ?_
  refine va_get (D := (dC, dI)) (ci := 7) (v := .int (nI tr)) (C := RX8) (T := TX8) (N := 31) hx hb hts hiX8 hown hK hP 0 rfl rfl 25 (by decide) (hts (.fieldLink RX8 153 "RefineRegionsModel" "typicals" "I") (by decide +kernel)) (fun _ h9 => h9) rfl dX8_told_56 ?_
  refine lv_goto (tgt := 90) hx hb dX8_told_59 (by decide) ?_
  have hP9 := hP
  have hD9 := hD
  exact W.iret (v := nI tr) hx hb hr (fun t ht hW => ⟨⟨nI tr, (), rfl, rfl, by rw [ht]; exact hP9, va_K.moved hW.alike hK, hD9⟩, hS.F ht⟩) hS.2.2 dX8_told_90

set_option maxHeartbeats 4000000 in
set_option maxRecDepth 100000 in
/-- told(3) -/
theorem c_X8_told_3 (l : Launch) (dC : Nat → ClassId) (dI : Nat → Nat → Nat) (cI cZ cJ : ClassId) (m0 : Nat) (m1 : Nat) (m2 : Nat) (m3 : Nat) (m4 : Nat) (m5 : Nat) (m6 : Nat) (th : Int32) (tp : Int32) (ty : Int32) (sf : Int32) (rdg : Int32) (rt : Int32) (dx : Int32) (dy : Int32) (p0 : Int32) (q0 : Int32) (p1 : Int32) (q1 : Int32) (kp : Int32) (w : Nat) (h : Nat) (rwd : Nat) (rht : Nat) (k : Nat) (sk : Nat) (tr : Nat) (co : Nat) (b : Nat) (ma : Int64) (mc : Int64) (mt : Int32) (sz : Nat) : Met l yX8_told wsX8_told ({ frames := 0, cells := 0, slots := 0, locals := 0 }) (hw_Pre (dC, dI) vwCl (ty3 cI cZ cJ) [(m0, .inr (7, [.int th, .ref m1, .int (nI w), .int (nI h), .int tp, .int ty, .ref m2, .ref m3, .int sf, .int rdg, .int rt, .int (nI rwd), .int (nI rht), .ref m4, .int dx, .int dy, .int p0, .int q0, .int p1, .int q1, .int kp, .ref m5, .ref m6, .int (nI k), .int (nI sk), .int (nI tr), .int (nI co), .long ma, .long mc, .int mt, .int (nI b)]))] sz [.ref m0, .int 3]) (va_Qi (fun (r : Int32) (_ : Unit) => r = nI co) (hw_at (dC, dI) vwCl (ty3 cI cZ cJ) (fun _ : Unit => [(m0, .inr (7, [.int 0, .ref m1, .int (nI w), .int (nI h), .int tp, .int ty, .ref m2, .ref m3, .int sf, .int rdg, .int rt, .int (nI rwd), .int (nI rht), .ref m4, .int dx, .int dy, .int p0, .int q0, .int p1, .int q1, .int kp, .ref m5, .ref m6, .int (nI k), .int (nI sk), .int (nI tr), .int (nI co), .long ma, .long mc, .int mt, .int (nI b)]))]) (va_A [(m0, .inr (7, [.int th, .ref m1, .int (nI w), .int (nI h), .int tp, .int ty, .ref m2, .ref m3, .int sf, .int rdg, .int rt, .int (nI rwd), .int (nI rht), .ref m4, .int dx, .int dy, .int p0, .int q0, .int p1, .int q1, .int kp, .ref m5, .ref m6, .int (nI k), .int (nI sk), .int (nI tr), .int (nI co), .long ma, .long mc, .int mt, .int (nI b)]))] sz)) (va_A [(m0, .inr (7, [.int th, .ref m1, .int (nI w), .int (nI h), .int tp, .int ty, .ref m2, .ref m3, .int sf, .int rdg, .int rt, .int (nI rwd), .int (nI rht), .ref m4, .int dx, .int dy, .int p0, .int q0, .int p1, .int q1, .int kp, .ref m5, .ref m6, .int (nI k), .int (nI sk), .int (nI tr), .int (nI co), .long ma, .long mc, .int mt, .int (nI b)]))] sz)) 0 0 (va_A [(m0, .inr (7, [.int th, .ref m1, .int (nI w), .int (nI h), .int tp, .int ty, .ref m2, .ref m3, .int sf, .int rdg, .int rt, .int (nI rwd), .int (nI rht), .ref m4, .int dx, .int dy, .int p0, .int q0, .int p1, .int q1, .int kp, .ref m5, .ref m6, .int (nI k), .int (nI sk), .int (nI tr), .int (nI co), .long ma, .long mc, .int mt, .int (nI b)]))] sz) := by
  refine Met.ofW (cc := cX8_told) (maxL := 2) (ret := (some .int)) (by decide) rfl ?_
  intro pg ev s m args below meth cd s₁ B hml hv
  obtain ⟨rfl, hsz, hP, hK, hN, hZ, hD0⟩ := hv
  have hx := B.exec
  have hb := B.bytes
  have hr := B.returns
  have hts := atoms_spec (ws := wsX8_told) B.pre
  have hown : s.vm.findClass RX8 = some m.cls := findClass_of_methodNamed B.named
  have hlocks := B.notSynchronized
  subst hsz
  have hD := hD0.self (sz := s.heap.size)
  generalize hAe : va_A [(m0, .inr (7, [.int th, .ref m1, .int (nI w), .int (nI h), .int tp, .int ty, .ref m2, .ref m3, .int sf, .int rdg, .int rt, .int (nI rwd), .int (nI rht), .ref m4, .int dx, .int dy, .int p0, .int q0, .int p1, .int q1, .int kp, .ref m5, .ref m6, .int (nI k), .int (nI sk), .int (nI tr), .int (nI co), .long ma, .long mc, .int mt, .int (nI b)]))] s.heap.size = A at hD hZ ⊢
  have hA : ∀ q : Nat, s.heap.size ≤ q → A q := fun q h => by rw [← hAe]; exact Or.inr h
  have hS : va_S A s.heap s.heap [] := va_S.rf
  have hk : hw_K (dC, dI) vwCl (ty3 cI cZ cJ) A s := ⟨hK, hN, hZ⟩
  have hiX8 : ∀ w ∈ u_ws RX8 TX8 31, w ∈ wsX8_told := by decide +kernel
  have hl := lv_entry ([.ref m0, .int 3]) (n := 2) (Nat.le_of_ble_eq_true rfl)
  rw [lg_entry_eq]
  generalize (lg_sl ([.ref m0, .int 3]) ++ List.replicate (2 - (lg_sl ([.ref m0, .int 3])).length) Slot.unset).toArray = ls at hl ⊢
  have hl : lv_has ls 2 [(0, .ref m0), (1, .int 3)] := hl
  refine lv_aload_n hx hb dX8_told_0 rfl (lv_at hl 0 rfl) ?_
  refine lv_iload_n hx hb dX8_told_1 rfl (lv_at hl 1 rfl) ?_
  refine lv_if_lt (tgt := 10) hx hb dX8_told_2 (by decide) (fun c9 => absurd c9 (by decide)) (fun _ => ?_)
  refine lv_iload_n hx hb dX8_told_5 rfl (lv_at hl 1 rfl) ?_
  refine lv_iconst (v := 5) hx hb dX8_told_6 (by decide) ?_
  refine lv_icmp_le (tgt := 14) hx hb dX8_told_7 (by decide) (fun _ => ?_) (fun c9 => absurd (by decide) c9)
  refine lv_iconst (v := 0) hx hb dX8_told_14 (by decide) ?_
  refine va_put (D := (dC, dI)) (ci := 7) (v := .int 0) (ty := .int) (C := RX8) (T := TX8) (N := 31) hx hb hts hiX8 tyX8 tyX8_ok nmX8 hown hK hP hD hS 0 rfl rfl 0 (by decide) (hts (.fieldLink RX8 48 "RefineRegionsModel" "thrown" "I") (by decide +kernel)) (fun _ h9 => h9) rfl (by decide +kernel) rfl rfl (Nat.le_of_ble_eq_true rfl) dX8_told_15 (fun H locs hP hD hS => ?_)
  have hP : va_P (dC, dI) vwCl [(m0, .inr (7, [.int 0, .ref m1, .int (nI w), .int (nI h), .int tp, .int ty, .ref m2, .ref m3, .int sf, .int rdg, .int rt, .int (nI rwd), .int (nI rht), .ref m4, .int dx, .int dy, .int p0, .int q0, .int p1, .int q1, .int kp, .ref m5, .ref m6, .int (nI k), .int (nI sk), .int (nI tr), .int (nI co), .long ma, .long mc, .int mt, .int (nI b)]))] H := hP
  have hD : va_D A [(m0, .inr (7, [.int 0, .ref m1, .int (nI w), .int (nI h), .int tp, .int ty, .ref m2, .ref m3, .int sf, .int rdg, .int rt, .int (nI rwd), .int (nI rht), .ref m4, .int dx, .int dy, .int p0, .int q0, .int p1, .int q1, .int kp, .ref m5, .ref m6, .int (nI k), .int (nI sk), .int (nI tr), .int (nI co), .long ma, .long mc, .int mt, .int (nI b)]))] := hD
  refine lv_aload_n hx hb dX8_told_18 rfl (lv_at hl 0 rfl) ?_
  refine va_get (D := (dC, dI)) (ci := 7) (v := .int 0) (C := RX8) (T := TX8) (N := 31) hx hb hts hiX8 hown hK hP 0 rfl rfl 0 (by decide) (hts (.fieldLink RX8 48 "RefineRegionsModel" "thrown" "I") (by decide +kernel)) (fun _ h9 => h9) rfl dX8_told_19 ?_
  refine lv_if_le (tgt := 27) hx hb dX8_told_22 (by decide) (fun _ => ?_) (fun c9 => absurd (by decide) c9)
  refine lv_iload_n hx hb dX8_told_27 rfl (lv_at hl 1 rfl) ?_
  refine lv_if_ne (tgt := 38) hx hb dX8_told_28 (by decide) (fun _ => ?_) (fun c9 => absurd c9 (by decide))
  refine lv_iload_n hx hb dX8_told_38 rfl (lv_at hl 1 rfl) ?_
  refine lv_iconst (v := 1) hx hb dX8_told_39 (by decide) ?_
  refine lv_icmp_ne (tgt := 50) hx hb dX8_told_40 (by decide) (fun _ => ?_) (fun c9 => absurd c9 (by decide))
  refine lv_iload_n hx hb dX8_told_50 rfl (lv_at hl 1 rfl) ?_
  refine lv_iconst (v := 2) hx hb dX8_told_51 (by decide) ?_
  refine lv_icmp_ne (tgt := 62) hx hb dX8_told_52 (by decide) (fun _ => ?_) (fun c9 => absurd c9 (by decide))
  refine lv_iload_n hx hb dX8_told_62 rfl (lv_at hl 1 rfl) ?_
  refine lv_iconst (v := 3) hx hb dX8_told_63 (by decide) ?_
  refine lv_icmp_ne (tgt := 74) hx hb dX8_told_64 (by decide) (fun c9 => absurd c9 (by decide)) (fun _ => ?_)
  refine lv_aload_n hx hb dX8_told_67 rfl (lv_at hl 0 rfl) ?_
  refine va_get (D := (dC, dI)) (ci := 7) (v := .int (nI co)) (C := RX8) (T := TX8) (N := 31) hx hb hts hiX8 hown hK hP 0 rfl rfl 26 (by decide) (hts (.fieldLink RX8 134 "RefineRegionsModel" "coded" "I") (by decide +kernel)) (fun _ h9 => h9) rfl dX8_told_68 ?_
  refine lv_goto (tgt := 90) hx hb dX8_told_71 (by decide) ?_
  have hP9 := hP
  have hD9 := hD
  exact W.iret (v := nI co) hx hb hr (fun t ht hW => ⟨⟨nI co, (), rfl, rfl, by rw [ht]; exact hP9, va_K.moved hW.alike hK, hD9⟩, hS.F ht⟩) hS.2.2 dX8_told_90

set_option maxHeartbeats 4000000 in
set_option maxRecDepth 100000 in
/-- told(4) -/
theorem c_X8_told_4 (l : Launch) (dC : Nat → ClassId) (dI : Nat → Nat → Nat) (cI cZ cJ : ClassId) (m0 : Nat) (m1 : Nat) (m2 : Nat) (m3 : Nat) (m4 : Nat) (m5 : Nat) (m6 : Nat) (th : Int32) (tp : Int32) (ty : Int32) (sf : Int32) (rdg : Int32) (rt : Int32) (dx : Int32) (dy : Int32) (p0 : Int32) (q0 : Int32) (p1 : Int32) (q1 : Int32) (kp : Int32) (w : Nat) (h : Nat) (rwd : Nat) (rht : Nat) (k : Nat) (sk : Nat) (tr : Nat) (co : Nat) (b : Nat) (ma : Int64) (mc : Int64) (mt : Int32) (sz : Nat) : Met l yX8_told wsX8_told ({ frames := 0, cells := 0, slots := 0, locals := 0 }) (hw_Pre (dC, dI) vwCl (ty3 cI cZ cJ) [(m0, .inr (7, [.int th, .ref m1, .int (nI w), .int (nI h), .int tp, .int ty, .ref m2, .ref m3, .int sf, .int rdg, .int rt, .int (nI rwd), .int (nI rht), .ref m4, .int dx, .int dy, .int p0, .int q0, .int p1, .int q1, .int kp, .ref m5, .ref m6, .int (nI k), .int (nI sk), .int (nI tr), .int (nI co), .long ma, .long mc, .int mt, .int (nI b)]))] sz [.ref m0, .int 4]) (va_Qi (fun (r : Int32) (_ : Unit) => r = nI b) (hw_at (dC, dI) vwCl (ty3 cI cZ cJ) (fun _ : Unit => [(m0, .inr (7, [.int 0, .ref m1, .int (nI w), .int (nI h), .int tp, .int ty, .ref m2, .ref m3, .int sf, .int rdg, .int rt, .int (nI rwd), .int (nI rht), .ref m4, .int dx, .int dy, .int p0, .int q0, .int p1, .int q1, .int kp, .ref m5, .ref m6, .int (nI k), .int (nI sk), .int (nI tr), .int (nI co), .long ma, .long mc, .int mt, .int (nI b)]))]) (va_A [(m0, .inr (7, [.int th, .ref m1, .int (nI w), .int (nI h), .int tp, .int ty, .ref m2, .ref m3, .int sf, .int rdg, .int rt, .int (nI rwd), .int (nI rht), .ref m4, .int dx, .int dy, .int p0, .int q0, .int p1, .int q1, .int kp, .ref m5, .ref m6, .int (nI k), .int (nI sk), .int (nI tr), .int (nI co), .long ma, .long mc, .int mt, .int (nI b)]))] sz)) (va_A [(m0, .inr (7, [.int th, .ref m1, .int (nI w), .int (nI h), .int tp, .int ty, .ref m2, .ref m3, .int sf, .int rdg, .int rt, .int (nI rwd), .int (nI rht), .ref m4, .int dx, .int dy, .int p0, .int q0, .int p1, .int q1, .int kp, .ref m5, .ref m6, .int (nI k), .int (nI sk), .int (nI tr), .int (nI co), .long ma, .long mc, .int mt, .int (nI b)]))] sz)) 0 0 (va_A [(m0, .inr (7, [.int th, .ref m1, .int (nI w), .int (nI h), .int tp, .int ty, .ref m2, .ref m3, .int sf, .int rdg, .int rt, .int (nI rwd), .int (nI rht), .ref m4, .int dx, .int dy, .int p0, .int q0, .int p1, .int q1, .int kp, .ref m5, .ref m6, .int (nI k), .int (nI sk), .int (nI tr), .int (nI co), .long ma, .long mc, .int mt, .int (nI b)]))] sz) := by
  refine Met.ofW (cc := cX8_told) (maxL := 2) (ret := (some .int)) (by decide) rfl ?_
  intro pg ev s m args below meth cd s₁ B hml hv
  obtain ⟨rfl, hsz, hP, hK, hN, hZ, hD0⟩ := hv
  have hx := B.exec
  have hb := B.bytes
  have hr := B.returns
  have hts := atoms_spec (ws := wsX8_told) B.pre
  have hown : s.vm.findClass RX8 = some m.cls := findClass_of_methodNamed B.named
  have hlocks := B.notSynchronized
  subst hsz
  have hD := hD0.self (sz := s.heap.size)
  generalize hAe : va_A [(m0, .inr (7, [.int th, .ref m1, .int (nI w), .int (nI h), .int tp, .int ty, .ref m2, .ref m3, .int sf, .int rdg, .int rt, .int (nI rwd), .int (nI rht), .ref m4, .int dx, .int dy, .int p0, .int q0, .int p1, .int q1, .int kp, .ref m5, .ref m6, .int (nI k), .int (nI sk), .int (nI tr), .int (nI co), .long ma, .long mc, .int mt, .int (nI b)]))] s.heap.size = A at hD hZ ⊢
  have hA : ∀ q : Nat, s.heap.size ≤ q → A q := fun q h => by rw [← hAe]; exact Or.inr h
  have hS : va_S A s.heap s.heap [] := va_S.rf
  have hk : hw_K (dC, dI) vwCl (ty3 cI cZ cJ) A s := ⟨hK, hN, hZ⟩
  have hiX8 : ∀ w ∈ u_ws RX8 TX8 31, w ∈ wsX8_told := by decide +kernel
  have hl := lv_entry ([.ref m0, .int 4]) (n := 2) (Nat.le_of_ble_eq_true rfl)
  rw [lg_entry_eq]
  generalize (lg_sl ([.ref m0, .int 4]) ++ List.replicate (2 - (lg_sl ([.ref m0, .int 4])).length) Slot.unset).toArray = ls at hl ⊢
  have hl : lv_has ls 2 [(0, .ref m0), (1, .int 4)] := hl
  refine lv_aload_n hx hb dX8_told_0 rfl (lv_at hl 0 rfl) ?_
  refine lv_iload_n hx hb dX8_told_1 rfl (lv_at hl 1 rfl) ?_
  refine lv_if_lt (tgt := 10) hx hb dX8_told_2 (by decide) (fun c9 => absurd c9 (by decide)) (fun _ => ?_)
  refine lv_iload_n hx hb dX8_told_5 rfl (lv_at hl 1 rfl) ?_
  refine lv_iconst (v := 5) hx hb dX8_told_6 (by decide) ?_
  refine lv_icmp_le (tgt := 14) hx hb dX8_told_7 (by decide) (fun _ => ?_) (fun c9 => absurd (by decide) c9)
  refine lv_iconst (v := 0) hx hb dX8_told_14 (by decide) ?_
  refine va_put (D := (dC, dI)) (ci := 7) (v := .int 0) (ty := .int) (C := RX8) (T := TX8) (N := 31) hx hb hts hiX8 tyX8 tyX8_ok nmX8 hown hK hP hD hS 0 rfl rfl 0 (by decide) (hts (.fieldLink RX8 48 "RefineRegionsModel" "thrown" "I") (by decide +kernel)) (fun _ h9 => h9) rfl (by decide +kernel) rfl rfl (Nat.le_of_ble_eq_true rfl) dX8_told_15 (fun H locs hP hD hS => ?_)
  have hP : va_P (dC, dI) vwCl [(m0, .inr (7, [.int 0, .ref m1, .int (nI w), .int (nI h), .int tp, .int ty, .ref m2, .ref m3, .int sf, .int rdg, .int rt, .int (nI rwd), .int (nI rht), .ref m4, .int dx, .int dy, .int p0, .int q0, .int p1, .int q1, .int kp, .ref m5, .ref m6, .int (nI k), .int (nI sk), .int (nI tr), .int (nI co), .long ma, .long mc, .int mt, .int (nI b)]))] H := hP
  have hD : va_D A [(m0, .inr (7, [.int 0, .ref m1, .int (nI w), .int (nI h), .int tp, .int ty, .ref m2, .ref m3, .int sf, .int rdg, .int rt, .int (nI rwd), .int (nI rht), .ref m4, .int dx, .int dy, .int p0, .int q0, .int p1, .int q1, .int kp, .ref m5, .ref m6, .int (nI k), .int (nI sk), .int (nI tr), .int (nI co), .long ma, .long mc, .int mt, .int (nI b)]))] := hD
  refine lv_aload_n hx hb dX8_told_18 rfl (lv_at hl 0 rfl) ?_
  refine va_get (D := (dC, dI)) (ci := 7) (v := .int 0) (C := RX8) (T := TX8) (N := 31) hx hb hts hiX8 hown hK hP 0 rfl rfl 0 (by decide) (hts (.fieldLink RX8 48 "RefineRegionsModel" "thrown" "I") (by decide +kernel)) (fun _ h9 => h9) rfl dX8_told_19 ?_
  refine lv_if_le (tgt := 27) hx hb dX8_told_22 (by decide) (fun _ => ?_) (fun c9 => absurd (by decide) c9)
  refine lv_iload_n hx hb dX8_told_27 rfl (lv_at hl 1 rfl) ?_
  refine lv_if_ne (tgt := 38) hx hb dX8_told_28 (by decide) (fun _ => ?_) (fun c9 => absurd c9 (by decide))
  refine lv_iload_n hx hb dX8_told_38 rfl (lv_at hl 1 rfl) ?_
  refine lv_iconst (v := 1) hx hb dX8_told_39 (by decide) ?_
  refine lv_icmp_ne (tgt := 50) hx hb dX8_told_40 (by decide) (fun _ => ?_) (fun c9 => absurd c9 (by decide))
  refine lv_iload_n hx hb dX8_told_50 rfl (lv_at hl 1 rfl) ?_
  refine lv_iconst (v := 2) hx hb dX8_told_51 (by decide) ?_
  refine lv_icmp_ne (tgt := 62) hx hb dX8_told_52 (by decide) (fun _ => ?_) (fun c9 => absurd c9 (by decide))
  refine lv_iload_n hx hb dX8_told_62 rfl (lv_at hl 1 rfl) ?_
  refine lv_iconst (v := 3) hx hb dX8_told_63 (by decide) ?_
  refine lv_icmp_ne (tgt := 74) hx hb dX8_told_64 (by decide) (fun _ => ?_) (fun c9 => absurd c9 (by decide))
  refine lv_iload_n hx hb dX8_told_74 rfl (lv_at hl 1 rfl) ?_
  refine lv_iconst (v := 4) hx hb dX8_told_75 (by decide) ?_
  refine lv_icmp_ne (tgt := 86) hx hb dX8_told_76 (by decide) (fun c9 => absurd c9 (by decide)) (fun _ => ?_)
  refine lv_aload_n hx hb dX8_told_79 rfl (lv_at hl 0 rfl) ?_
  refine va_get (D := (dC, dI)) (ci := 7) (v := .int (nI b)) (C := RX8) (T := TX8) (N := 31) hx hb hts hiX8 hown hK hP 0 rfl rfl 30 (by decide) (hts (.fieldLink RX8 176 "RefineRegionsModel" "b" "I") (by decide +kernel)) (fun _ h9 => h9) rfl dX8_told_80 ?_
  refine lv_goto (tgt := 90) hx hb dX8_told_83 (by decide) ?_
  have hP9 := hP
  have hD9 := hD
  exact W.iret (v := nI b) hx hb hr (fun t ht hW => ⟨⟨nI b, (), rfl, rfl, by rw [ht]; exact hP9, va_K.moved hW.alike hK, hD9⟩, hS.F ht⟩) hS.2.2 dX8_told_90

set_option maxHeartbeats 4000000 in
set_option maxRecDepth 100000 in
/-- told(5) -/
theorem c_X8_told_5 (l : Launch) (dC : Nat → ClassId) (dI : Nat → Nat → Nat) (cI cZ cJ : ClassId) (m0 : Nat) (m1 : Nat) (m2 : Nat) (m3 : Nat) (m4 : Nat) (m5 : Nat) (m6 : Nat) (th : Int32) (tp : Int32) (ty : Int32) (rdg : Int32) (rt : Int32) (dx : Int32) (dy : Int32) (p0 : Int32) (q0 : Int32) (p1 : Int32) (q1 : Int32) (kp : Int32) (w : Nat) (h : Nat) (rwd : Nat) (rht : Nat) (k : Nat) (sk : Nat) (tr : Nat) (co : Nat) (b : Nat) (ma : Int64) (mc : Int64) (mt : Int32) (pf : Nat → Int32) (ff : Nat → Int32) (sfb : Bool) (hw1 : w ≤ 40) (hh1 : h ≤ 40) (hw0 : 1 ≤ w) (hpf : sp_01 pf) (hff : sp_01 ff) (sz : Nat) : Met l yX8_told wsX8_told ({ frames := 1, cells := 0, slots := 0, locals := 23 }) (hw_Pre (dC, dI) vwCl (ty3 cI cZ cJ) [(m0, .inr (7, [.int th, .ref m1, .int (nI w), .int (nI h), .int tp, .int ty, .ref m2, .ref m3, .int (sp_z sfb), .int rdg, .int rt, .int (nI rwd), .int (nI rht), .ref m4, .int dx, .int dy, .int p0, .int q0, .int p1, .int q1, .int kp, .ref m5, .ref m6, .int (nI k), .int (nI sk), .int (nI tr), .int (nI co), .long ma, .long mc, .int mt, .int (nI b)])), (m2, .inl (cZ, 1600, .inl pf)), (m3, .inl (cZ, 1600, .inl ff))] sz [.ref m0, .int 5]) (va_Qi (fun (r : Int32) (_ : Unit) => r = cond sfb (sp_acc2 (fun x y => sp_px (nI 40) (nI w) (nI h) pf (nI x) (nI y) ^^^ sp_px (nI 40) (nI w) (nI h) ff (nI x) (nI y)) w h 0) (-1)) (hw_at (dC, dI) vwCl (ty3 cI cZ cJ) (fun _ : Unit => [(m0, .inr (7, [.int 0, .ref m1, .int (nI w), .int (nI h), .int tp, .int ty, .ref m2, .ref m3, .int (sp_z sfb), .int rdg, .int rt, .int (nI rwd), .int (nI rht), .ref m4, .int dx, .int dy, .int p0, .int q0, .int p1, .int q1, .int kp, .ref m5, .ref m6, .int (nI k), .int (nI sk), .int (nI tr), .int (nI co), .long ma, .long mc, .int mt, .int (nI b)])), (m2, .inl (cZ, 1600, .inl pf)), (m3, .inl (cZ, 1600, .inl ff))]) (va_A [(m0, .inr (7, [.int th, .ref m1, .int (nI w), .int (nI h), .int tp, .int ty, .ref m2, .ref m3, .int (sp_z sfb), .int rdg, .int rt, .int (nI rwd), .int (nI rht), .ref m4, .int dx, .int dy, .int p0, .int q0, .int p1, .int q1, .int kp, .ref m5, .ref m6, .int (nI k), .int (nI sk), .int (nI tr), .int (nI co), .long ma, .long mc, .int mt, .int (nI b)])), (m2, .inl (cZ, 1600, .inl pf)), (m3, .inl (cZ, 1600, .inl ff))] sz)) (va_A [(m0, .inr (7, [.int th, .ref m1, .int (nI w), .int (nI h), .int tp, .int ty, .ref m2, .ref m3, .int (sp_z sfb), .int rdg, .int rt, .int (nI rwd), .int (nI rht), .ref m4, .int dx, .int dy, .int p0, .int q0, .int p1, .int q1, .int kp, .ref m5, .ref m6, .int (nI k), .int (nI sk), .int (nI tr), .int (nI co), .long ma, .long mc, .int mt, .int (nI b)])), (m2, .inl (cZ, 1600, .inl pf)), (m3, .inl (cZ, 1600, .inl ff))] sz)) 0 0 (va_A [(m0, .inr (7, [.int th, .ref m1, .int (nI w), .int (nI h), .int tp, .int ty, .ref m2, .ref m3, .int (sp_z sfb), .int rdg, .int rt, .int (nI rwd), .int (nI rht), .ref m4, .int dx, .int dy, .int p0, .int q0, .int p1, .int q1, .int kp, .ref m5, .ref m6, .int (nI k), .int (nI sk), .int (nI tr), .int (nI co), .long ma, .long mc, .int mt, .int (nI b)])), (m2, .inl (cZ, 1600, .inl pf)), (m3, .inl (cZ, 1600, .inl ff))] sz) := by
  refine Met.ofW (cc := cX8_told) (maxL := 2) (ret := (some .int)) (by decide) rfl ?_
  intro pg ev s m args below meth cd s₁ B hml hv
  obtain ⟨rfl, hsz, hP, hK, hN, hZ, hD0⟩ := hv
  have hx := B.exec
  have hb := B.bytes
  have hr := B.returns
  have hts := atoms_spec (ws := wsX8_told) B.pre
  have hown : s.vm.findClass RX8 = some m.cls := findClass_of_methodNamed B.named
  have hlocks := B.notSynchronized
  subst hsz
  have hD := hD0.self (sz := s.heap.size)
  generalize hAe : va_A [(m0, .inr (7, [.int th, .ref m1, .int (nI w), .int (nI h), .int tp, .int ty, .ref m2, .ref m3, .int (sp_z sfb), .int rdg, .int rt, .int (nI rwd), .int (nI rht), .ref m4, .int dx, .int dy, .int p0, .int q0, .int p1, .int q1, .int kp, .ref m5, .ref m6, .int (nI k), .int (nI sk), .int (nI tr), .int (nI co), .long ma, .long mc, .int mt, .int (nI b)])), (m2, .inl (cZ, 1600, .inl pf)), (m3, .inl (cZ, 1600, .inl ff))] s.heap.size = A at hD hZ ⊢
  have hA : ∀ q : Nat, s.heap.size ≤ q → A q := fun q h => by rw [← hAe]; exact Or.inr h
  have hS : va_S A s.heap s.heap [] := va_S.rf
  have hk : hw_K (dC, dI) vwCl (ty3 cI cZ cJ) A s := ⟨hK, hN, hZ⟩
  have hiX8 : ∀ w ∈ u_ws RX8 TX8 31, w ∈ wsX8_told := by decide +kernel
  have hl := lv_entry ([.ref m0, .int 5]) (n := 2) (Nat.le_of_ble_eq_true rfl)
  rw [lg_entry_eq]
  generalize (lg_sl ([.ref m0, .int 5]) ++ List.replicate (2 - (lg_sl ([.ref m0, .int 5])).length) Slot.unset).toArray = ls at hl ⊢
  have hl : lv_has ls 2 [(0, .ref m0), (1, .int 5)] := hl
  refine lv_aload_n hx hb dX8_told_0 rfl (lv_at hl 0 rfl) ?_
  refine lv_iload_n hx hb dX8_told_1 rfl (lv_at hl 1 rfl) ?_
  refine lv_if_lt (tgt := 10) hx hb dX8_told_2 (by decide) (fun c9 => absurd c9 (by decide)) (fun _ => ?_)
  refine lv_iload_n hx hb dX8_told_5 rfl (lv_at hl 1 rfl) ?_
  refine lv_iconst (v := 5) hx hb dX8_told_6 (by decide) ?_
  refine lv_icmp_le (tgt := 14) hx hb dX8_told_7 (by decide) (fun _ => ?_) (fun c9 => absurd (by decide) c9)
  refine lv_iconst (v := 0) hx hb dX8_told_14 (by decide) ?_
  refine va_put (D := (dC, dI)) (ci := 7) (v := .int 0) (ty := .int) (C := RX8) (T := TX8) (N := 31) hx hb hts hiX8 tyX8 tyX8_ok nmX8 hown hK hP hD hS 0 rfl rfl 0 (by decide) (hts (.fieldLink RX8 48 "RefineRegionsModel" "thrown" "I") (by decide +kernel)) (fun _ h9 => h9) rfl (by decide +kernel) rfl rfl (Nat.le_of_ble_eq_true rfl) dX8_told_15 (fun H locs hP hD hS => ?_)
  have hP : va_P (dC, dI) vwCl [(m0, .inr (7, [.int 0, .ref m1, .int (nI w), .int (nI h), .int tp, .int ty, .ref m2, .ref m3, .int (sp_z sfb), .int rdg, .int rt, .int (nI rwd), .int (nI rht), .ref m4, .int dx, .int dy, .int p0, .int q0, .int p1, .int q1, .int kp, .ref m5, .ref m6, .int (nI k), .int (nI sk), .int (nI tr), .int (nI co), .long ma, .long mc, .int mt, .int (nI b)])), (m2, .inl (cZ, 1600, .inl pf)), (m3, .inl (cZ, 1600, .inl ff))] H := hP
  have hD : va_D A [(m0, .inr (7, [.int 0, .ref m1, .int (nI w), .int (nI h), .int tp, .int ty, .ref m2, .ref m3, .int (sp_z sfb), .int rdg, .int rt, .int (nI rwd), .int (nI rht), .ref m4, .int dx, .int dy, .int p0, .int q0, .int p1, .int q1, .int kp, .ref m5, .ref m6, .int (nI k), .int (nI sk), .int (nI tr), .int (nI co), .long ma, .long mc, .int mt, .int (nI b)])), (m2, .inl (cZ, 1600, .inl pf)), (m3, .inl (cZ, 1600, .inl ff))] := hD
  refine lv_aload_n hx hb dX8_told_18 rfl (lv_at hl 0 rfl) ?_
  refine va_get (D := (dC, dI)) (ci := 7) (v := .int 0) (C := RX8) (T := TX8) (N := 31) hx hb hts hiX8 hown hK hP 0 rfl rfl 0 (by decide) (hts (.fieldLink RX8 48 "RefineRegionsModel" "thrown" "I") (by decide +kernel)) (fun _ h9 => h9) rfl dX8_told_19 ?_
  refine lv_if_le (tgt := 27) hx hb dX8_told_22 (by decide) (fun _ => ?_) (fun c9 => absurd (by decide) c9)
  refine lv_iload_n hx hb dX8_told_27 rfl (lv_at hl 1 rfl) ?_
  refine lv_if_ne (tgt := 38) hx hb dX8_told_28 (by decide) (fun _ => ?_) (fun c9 => absurd c9 (by decide))
  refine lv_iload_n hx hb dX8_told_38 rfl (lv_at hl 1 rfl) ?_
  refine lv_iconst (v := 1) hx hb dX8_told_39 (by decide) ?_
  refine lv_icmp_ne (tgt := 50) hx hb dX8_told_40 (by decide) (fun _ => ?_) (fun c9 => absurd c9 (by decide))
  refine lv_iload_n hx hb dX8_told_50 rfl (lv_at hl 1 rfl) ?_
  refine lv_iconst (v := 2) hx hb dX8_told_51 (by decide) ?_
  refine lv_icmp_ne (tgt := 62) hx hb dX8_told_52 (by decide) (fun _ => ?_) (fun c9 => absurd c9 (by decide))
  refine lv_iload_n hx hb dX8_told_62 rfl (lv_at hl 1 rfl) ?_
  refine lv_iconst (v := 3) hx hb dX8_told_63 (by decide) ?_
  refine lv_icmp_ne (tgt := 74) hx hb dX8_told_64 (by decide) (fun _ => ?_) (fun c9 => absurd c9 (by decide))
  refine lv_iload_n hx hb dX8_told_74 rfl (lv_at hl 1 rfl) ?_
  refine lv_iconst (v := 4) hx hb dX8_told_75 (by decide) ?_
  refine lv_icmp_ne (tgt := 86) hx hb dX8_told_76 (by decide) (fun _ => ?_) (fun c9 => absurd c9 (by decide))
  refine lv_aload_n hx hb dX8_told_86 rfl (lv_at hl 0 rfl) ?_
  refine hw_callSe (va_runV (As := []) (rest := []) ⟨hx, hb, hml, hown, hts⟩ (c_X8_different l dC dI cI cZ cJ m0 m1 m2 m3 m4 m5 m6 0 tp ty rdg rt dx dy p0 q0 p1 q1 kp w h rwd rht k sk tr co b ma mc mt pf ff sfb (hw1) (hh1) (hw0) (hpf) (hff)) (cwV 0 hts gX8_told_X8_different rfl rfl rfl (by decide +kernel) ⟨Nat.le_of_ble_eq_true rfl, Nat.le_of_ble_eq_true rfl⟩) (hw_roV hP hS hk [0, 1, 2] rfl (ci := 7) (q0 := 0) rfl rfl) rfl rfl hl.1 rfl (lv_room (Nat.le_of_ble_eq_true rfl)) dX8_told_87 ⟨Nat.le_of_ble_eq_true rfl, Nat.le_of_ble_eq_true rfl⟩) ?_
  have hP9 := hP
  have hD9 := hD
  exact W.iret (v := cond sfb (sp_acc2 (fun x y => sp_px (nI 40) (nI w) (nI h) pf (nI x) (nI y) ^^^ sp_px (nI 40) (nI w) (nI h) ff (nI x) (nI y)) w h 0) (-1)) hx hb hr (fun t ht hW => ⟨⟨cond sfb (sp_acc2 (fun x y => sp_px (nI 40) (nI w) (nI h) pf (nI x) (nI y) ^^^ sp_px (nI 40) (nI w) (nI h) ff (nI x) (nI y)) w h 0) (-1), (), rfl, rfl, by rw [ht]; exact hP9, va_K.moved hW.alike hK, hD9⟩, hS.F ht⟩) hS.2.2 dX8_told_90

set_option maxHeartbeats 4000000 in
set_option maxRecDepth 100000 in
/-- told, refused -/
theorem c_X8_told_no (l : Launch) (dC : Nat → ClassId) (dI : Nat → Nat → Nat) (cI cZ cJ : ClassId) (m0 : Nat) (m1 : Nat) (m2 : Nat) (m3 : Nat) (m4 : Nat) (m5 : Nat) (m6 : Nat) (th : Int32) (tp : Int32) (ty : Int32) (sf : Int32) (rdg : Int32) (rt : Int32) (dx : Int32) (dy : Int32) (p0 : Int32) (q0 : Int32) (p1 : Int32) (q1 : Int32) (kp : Int32) (w : Nat) (h : Nat) (rwd : Nat) (rht : Nat) (k : Nat) (sk : Nat) (tr : Nat) (co : Nat) (b : Nat) (ma : Int64) (mc : Int64) (mt : Int32) (x : Int32) (hno : sp_iw x 0 5 = 0) (sz : Nat) : Met l yX8_told wsX8_told ({ frames := 0, cells := 0, slots := 0, locals := 0 }) (hw_Pre (dC, dI) vwCl (ty3 cI cZ cJ) [(m0, .inr (7, [.int th, .ref m1, .int (nI w), .int (nI h), .int tp, .int ty, .ref m2, .ref m3, .int sf, .int rdg, .int rt, .int (nI rwd), .int (nI rht), .ref m4, .int dx, .int dy, .int p0, .int q0, .int p1, .int q1, .int kp, .ref m5, .ref m6, .int (nI k), .int (nI sk), .int (nI tr), .int (nI co), .long ma, .long mc, .int mt, .int (nI b)]))] sz [.ref m0, .int x]) (va_Qi (fun (r : Int32) (_ : Unit) => r = 0) (hw_at (dC, dI) vwCl (ty3 cI cZ cJ) (fun _ : Unit => [(m0, .inr (7, [.int 1, .ref m1, .int (nI w), .int (nI h), .int tp, .int ty, .ref m2, .ref m3, .int sf, .int rdg, .int rt, .int (nI rwd), .int (nI rht), .ref m4, .int dx, .int dy, .int p0, .int q0, .int p1, .int q1, .int kp, .ref m5, .ref m6, .int (nI k), .int (nI sk), .int (nI tr), .int (nI co), .long ma, .long mc, .int mt, .int (nI b)]))]) (va_A [(m0, .inr (7, [.int th, .ref m1, .int (nI w), .int (nI h), .int tp, .int ty, .ref m2, .ref m3, .int sf, .int rdg, .int rt, .int (nI rwd), .int (nI rht), .ref m4, .int dx, .int dy, .int p0, .int q0, .int p1, .int q1, .int kp, .ref m5, .ref m6, .int (nI k), .int (nI sk), .int (nI tr), .int (nI co), .long ma, .long mc, .int mt, .int (nI b)]))] sz)) (va_A [(m0, .inr (7, [.int th, .ref m1, .int (nI w), .int (nI h), .int tp, .int ty, .ref m2, .ref m3, .int sf, .int rdg, .int rt, .int (nI rwd), .int (nI rht), .ref m4, .int dx, .int dy, .int p0, .int q0, .int p1, .int q1, .int kp, .ref m5, .ref m6, .int (nI k), .int (nI sk), .int (nI tr), .int (nI co), .long ma, .long mc, .int mt, .int (nI b)]))] sz)) 0 0 (va_A [(m0, .inr (7, [.int th, .ref m1, .int (nI w), .int (nI h), .int tp, .int ty, .ref m2, .ref m3, .int sf, .int rdg, .int rt, .int (nI rwd), .int (nI rht), .ref m4, .int dx, .int dy, .int p0, .int q0, .int p1, .int q1, .int kp, .ref m5, .ref m6, .int (nI k), .int (nI sk), .int (nI tr), .int (nI co), .long ma, .long mc, .int mt, .int (nI b)]))] sz) := by
  refine Met.ofW (cc := cX8_told) (maxL := 2) (ret := (some .int)) (by decide) rfl ?_
  intro pg ev s m args below meth cd s₁ B hml hv
  obtain ⟨rfl, hsz, hP, hK, hN, hZ, hD0⟩ := hv
  have hx := B.exec
  have hb := B.bytes
  have hr := B.returns
  have hts := atoms_spec (ws := wsX8_told) B.pre
  have hown : s.vm.findClass RX8 = some m.cls := findClass_of_methodNamed B.named
  have hlocks := B.notSynchronized
  subst hsz
  have hD := hD0.self (sz := s.heap.size)
  generalize hAe : va_A [(m0, .inr (7, [.int th, .ref m1, .int (nI w), .int (nI h), .int tp, .int ty, .ref m2, .ref m3, .int sf, .int rdg, .int rt, .int (nI rwd), .int (nI rht), .ref m4, .int dx, .int dy, .int p0, .int q0, .int p1, .int q1, .int kp, .ref m5, .ref m6, .int (nI k), .int (nI sk), .int (nI tr), .int (nI co), .long ma, .long mc, .int mt, .int (nI b)]))] s.heap.size = A at hD hZ ⊢
  have hA : ∀ q : Nat, s.heap.size ≤ q → A q := fun q h => by rw [← hAe]; exact Or.inr h
  have hS : va_S A s.heap s.heap [] := va_S.rf
  have hk : hw_K (dC, dI) vwCl (ty3 cI cZ cJ) A s := ⟨hK, hN, hZ⟩
  have hiX8 : ∀ w ∈ u_ws RX8 TX8 31, w ∈ wsX8_told := by decide +kernel
  have hl := lv_entry ([.ref m0, .int x]) (n := 2) (Nat.le_of_ble_eq_true rfl)
  rw [lg_entry_eq]
  generalize (lg_sl ([.ref m0, .int x]) ++ List.replicate (2 - (lg_sl ([.ref m0, .int x])).length) Slot.unset).toArray = ls at hl ⊢
  have hl : lv_has ls 2 [(0, .ref m0), (1, .int x)] := hl
  refine lv_aload_n hx hb dX8_told_0 rfl (lv_at hl 0 rfl) ?_
  refine lv_iload_n hx hb dX8_told_1 rfl (lv_at hl 1 rfl) ?_
  refine lv_if_lt (tgt := 10) hx hb dX8_told_2 (by decide) (fun c_2 => ?_) (fun c_2 => ?_)
  · refine lv_iconst (v := 1) hx hb dX8_told_10 (by decide) ?_
    refine lv_goto (tgt := 15) hx hb dX8_told_11 (by decide) ?_
    refine va_put (D := (dC, dI)) (ci := 7) (v := .int 1) (ty := .int) (C := RX8) (T := TX8) (N := 31) hx hb hts hiX8 tyX8 tyX8_ok nmX8 hown hK hP hD hS 0 rfl rfl 0 (by decide) (hts (.fieldLink RX8 48 "RefineRegionsModel" "thrown" "I") (by decide +kernel)) (fun _ h9 => h9) rfl (by decide +kernel) rfl rfl (Nat.le_of_ble_eq_true rfl) dX8_told_15 (fun H locs hP hD hS => ?_)
    have hP : va_P (dC, dI) vwCl [(m0, .inr (7, [.int 1, .ref m1, .int (nI w), .int (nI h), .int tp, .int ty, .ref m2, .ref m3, .int sf, .int rdg, .int rt, .int (nI rwd), .int (nI rht), .ref m4, .int dx, .int dy, .int p0, .int q0, .int p1, .int q1, .int kp, .ref m5, .ref m6, .int (nI k), .int (nI sk), .int (nI tr), .int (nI co), .long ma, .long mc, .int mt, .int (nI b)]))] H := hP
    have hD : va_D A [(m0, .inr (7, [.int 1, .ref m1, .int (nI w), .int (nI h), .int tp, .int ty, .ref m2, .ref m3, .int sf, .int rdg, .int rt, .int (nI rwd), .int (nI rht), .ref m4, .int dx, .int dy, .int p0, .int q0, .int p1, .int q1, .int kp, .ref m5, .ref m6, .int (nI k), .int (nI sk), .int (nI tr), .int (nI co), .long ma, .long mc, .int mt, .int (nI b)]))] := hD
    refine lv_aload_n hx hb dX8_told_18 rfl (lv_at hl 0 rfl) ?_
    refine va_get (D := (dC, dI)) (ci := 7) (v := .int 1) (C := RX8) (T := TX8) (N := 31) hx hb hts hiX8 hown hK hP 0 rfl rfl 0 (by decide) (hts (.fieldLink RX8 48 "RefineRegionsModel" "thrown" "I") (by decide +kernel)) (fun _ h9 => h9) rfl dX8_told_19 ?_
    refine lv_if_le (tgt := 27) hx hb dX8_told_22 (by decide) (fun c9 => absurd c9 (by decide)) (fun _ => ?_)
    refine lv_iconst (v := 0) hx hb dX8_told_25 (by decide) ?_
    have hP9 := hP
    have hD9 := hD
    exact W.iret (v := 0) hx hb hr (fun t ht hW => ⟨⟨0, (), rfl, rfl, by rw [ht]; exact hP9, va_K.moved hW.alike hK, hD9⟩, hS.F ht⟩) hS.2.2 dX8_told_26
  · refine lv_iload_n hx hb dX8_told_5 rfl (lv_at hl 1 rfl) ?_
    refine lv_iconst (v := 5) hx hb dX8_told_6 (by decide) ?_
    refine lv_icmp_le (tgt := 14) hx hb dX8_told_7 (by decide) (fun c_7 => absurd c_7 (fun h9 => sp_iw_f hno c_2 (Int32.not_lt.mpr h9))) (fun c_7 => ?_)
    refine lv_iconst (v := 1) hx hb dX8_told_10 (by decide) ?_
    refine lv_goto (tgt := 15) hx hb dX8_told_11 (by decide) ?_
    refine va_put (D := (dC, dI)) (ci := 7) (v := .int 1) (ty := .int) (C := RX8) (T := TX8) (N := 31) hx hb hts hiX8 tyX8 tyX8_ok nmX8 hown hK hP hD hS 0 rfl rfl 0 (by decide) (hts (.fieldLink RX8 48 "RefineRegionsModel" "thrown" "I") (by decide +kernel)) (fun _ h9 => h9) rfl (by decide +kernel) rfl rfl (Nat.le_of_ble_eq_true rfl) dX8_told_15 (fun H locs hP hD hS => ?_)
    have hP : va_P (dC, dI) vwCl [(m0, .inr (7, [.int 1, .ref m1, .int (nI w), .int (nI h), .int tp, .int ty, .ref m2, .ref m3, .int sf, .int rdg, .int rt, .int (nI rwd), .int (nI rht), .ref m4, .int dx, .int dy, .int p0, .int q0, .int p1, .int q1, .int kp, .ref m5, .ref m6, .int (nI k), .int (nI sk), .int (nI tr), .int (nI co), .long ma, .long mc, .int mt, .int (nI b)]))] H := hP
    have hD : va_D A [(m0, .inr (7, [.int 1, .ref m1, .int (nI w), .int (nI h), .int tp, .int ty, .ref m2, .ref m3, .int sf, .int rdg, .int rt, .int (nI rwd), .int (nI rht), .ref m4, .int dx, .int dy, .int p0, .int q0, .int p1, .int q1, .int kp, .ref m5, .ref m6, .int (nI k), .int (nI sk), .int (nI tr), .int (nI co), .long ma, .long mc, .int mt, .int (nI b)]))] := hD
    refine lv_aload_n hx hb dX8_told_18 rfl (lv_at hl 0 rfl) ?_
    refine va_get (D := (dC, dI)) (ci := 7) (v := .int 1) (C := RX8) (T := TX8) (N := 31) hx hb hts hiX8 hown hK hP 0 rfl rfl 0 (by decide) (hts (.fieldLink RX8 48 "RefineRegionsModel" "thrown" "I") (by decide +kernel)) (fun _ h9 => h9) rfl dX8_told_19 ?_
    refine lv_if_le (tgt := 27) hx hb dX8_told_22 (by decide) (fun c9 => absurd c9 (by decide)) (fun _ => ?_)
    refine lv_iconst (v := 0) hx hb dX8_told_25 (by decide) ?_
    have hP9 := hP
    have hD9 := hD
    exact W.iret (v := 0) hx hb hr (fun t ht hW => ⟨⟨0, (), rfl, rfl, by rw [ht]; exact hP9, va_K.moved hW.alike hK, hD9⟩, hS.F ht⟩) hS.2.2 dX8_told_26

set_option maxHeartbeats 4000000 in
set_option maxRecDepth 100000 in
/-- state, where it is allowed -/
theorem c_X8_state (l : Launch) (dC : Nat → ClassId) (dI : Nat → Nat → Nat) (cI cZ cJ : ClassId) (m0 : Nat) (m1 : Nat) (m2 : Nat) (m3 : Nat) (m4 : Nat) (m5 : Nat) (m6 : Nat) (th : Int32) (tp : Int32) (ty : Int32) (sf : Int32) (rdg : Int32) (rt : Int32) (dx : Int32) (dy : Int32) (p0 : Int32) (q0 : Int32) (p1 : Int32) (q1 : Int32) (kp : Int32) (w : Nat) (h : Nat) (rwd : Nat) (rht : Nat) (k : Nat) (sk : Nat) (tr : Nat) (co : Nat) (b : Nat) (ma : Int64) (mc : Int64) (mt : Int32) (SW : Nat → Nat) (SR : Nat → Nat) (n : Nat) (bb : Bool) (hn0 : n < 8192) (sz : Nat) : Met l yX8_state wsX8_state ({ frames := 0, cells := 0, slots := 0, locals := 0 }) (hw_Pre (dC, dI) vwCl (ty3 cI cZ cJ) [(m0, .inr (7, [.int th, .ref m1, .int (nI w), .int (nI h), .int tp, .int ty, .ref m2, .ref m3, .int sf, .int rdg, .int rt, .int (nI rwd), .int (nI rht), .ref m4, .int dx, .int dy, .int p0, .int q0, .int p1, .int q1, .int kp, .ref m5, .ref m6, .int (nI k), .int (nI sk), .int (nI tr), .int (nI co), .long ma, .long mc, .int mt, .int (nI b)])), (m5, .inl (cI, 16384, .inl (sp_cat SW SR)))] sz [.ref m0, .int (nI n), .int (sp_z bb)]) (va_Qi (fun (r : Int32) (_ : Unit) => r = nI (cond bb (SR n) (SW n))) (hw_at (dC, dI) vwCl (ty3 cI cZ cJ) (fun _ : Unit => [(m0, .inr (7, [.int 0, .ref m1, .int (nI w), .int (nI h), .int tp, .int ty, .ref m2, .ref m3, .int sf, .int rdg, .int rt, .int (nI rwd), .int (nI rht), .ref m4, .int dx, .int dy, .int p0, .int q0, .int p1, .int q1, .int kp, .ref m5, .ref m6, .int (nI k), .int (nI sk), .int (nI tr), .int (nI co), .long ma, .long mc, .int mt, .int (nI b)])), (m5, .inl (cI, 16384, .inl (sp_cat SW SR)))]) (va_A [(m0, .inr (7, [.int th, .ref m1, .int (nI w), .int (nI h), .int tp, .int ty, .ref m2, .ref m3, .int sf, .int rdg, .int rt, .int (nI rwd), .int (nI rht), .ref m4, .int dx, .int dy, .int p0, .int q0, .int p1, .int q1, .int kp, .ref m5, .ref m6, .int (nI k), .int (nI sk), .int (nI tr), .int (nI co), .long ma, .long mc, .int mt, .int (nI b)])), (m5, .inl (cI, 16384, .inl (sp_cat SW SR)))] sz)) (va_A [(m0, .inr (7, [.int th, .ref m1, .int (nI w), .int (nI h), .int tp, .int ty, .ref m2, .ref m3, .int sf, .int rdg, .int rt, .int (nI rwd), .int (nI rht), .ref m4, .int dx, .int dy, .int p0, .int q0, .int p1, .int q1, .int kp, .ref m5, .ref m6, .int (nI k), .int (nI sk), .int (nI tr), .int (nI co), .long ma, .long mc, .int mt, .int (nI b)])), (m5, .inl (cI, 16384, .inl (sp_cat SW SR)))] sz)) 0 0 (va_A [(m0, .inr (7, [.int th, .ref m1, .int (nI w), .int (nI h), .int tp, .int ty, .ref m2, .ref m3, .int sf, .int rdg, .int rt, .int (nI rwd), .int (nI rht), .ref m4, .int dx, .int dy, .int p0, .int q0, .int p1, .int q1, .int kp, .ref m5, .ref m6, .int (nI k), .int (nI sk), .int (nI tr), .int (nI co), .long ma, .long mc, .int mt, .int (nI b)])), (m5, .inl (cI, 16384, .inl (sp_cat SW SR)))] sz) := by
  refine Met.ofW (cc := cX8_state) (maxL := 3) (ret := (some .int)) (by decide) rfl ?_
  intro pg ev s m args below meth cd s₁ B hml hv
  obtain ⟨rfl, hsz, hP, hK, hN, hZ, hD0⟩ := hv
  have hx := B.exec
  have hb := B.bytes
  have hr := B.returns
  have hts := atoms_spec (ws := wsX8_state) B.pre
  have hown : s.vm.findClass RX8 = some m.cls := findClass_of_methodNamed B.named
  have hlocks := B.notSynchronized
  subst hsz
  have hD := hD0.self (sz := s.heap.size)
  generalize hAe : va_A [(m0, .inr (7, [.int th, .ref m1, .int (nI w), .int (nI h), .int tp, .int ty, .ref m2, .ref m3, .int sf, .int rdg, .int rt, .int (nI rwd), .int (nI rht), .ref m4, .int dx, .int dy, .int p0, .int q0, .int p1, .int q1, .int kp, .ref m5, .ref m6, .int (nI k), .int (nI sk), .int (nI tr), .int (nI co), .long ma, .long mc, .int mt, .int (nI b)])), (m5, .inl (cI, 16384, .inl (sp_cat SW SR)))] s.heap.size = A at hD hZ ⊢
  have hA : ∀ q : Nat, s.heap.size ≤ q → A q := fun q h => by rw [← hAe]; exact Or.inr h
  have hS : va_S A s.heap s.heap [] := va_S.rf
  have hk : hw_K (dC, dI) vwCl (ty3 cI cZ cJ) A s := ⟨hK, hN, hZ⟩
  have hiX8 : ∀ w ∈ u_ws RX8 TX8 31, w ∈ wsX8_state := by decide +kernel
  have hl := lv_entry ([.ref m0, .int (nI n), .int (sp_z bb)]) (n := 3) (Nat.le_of_ble_eq_true rfl)
  rw [lg_entry_eq]
  generalize (lg_sl ([.ref m0, .int (nI n), .int (sp_z bb)]) ++ List.replicate (3 - (lg_sl ([.ref m0, .int (nI n), .int (sp_z bb)])).length) Slot.unset).toArray = ls at hl ⊢
  have hl : lv_has ls 3 [(0, .ref m0), (1, .int (nI n)), (2, .int (sp_z bb))] := hl
  refine lv_aload_n hx hb dX8_state_0 rfl (lv_at hl 0 rfl) ?_
  refine lv_iload_n hx hb dX8_state_1 rfl (lv_at hl 1 rfl) ?_
  refine lv_if_lt (tgt := 12) hx hb dX8_state_2 (by decide) (fun c_2 => absurd c_2 (nI_pos (by omega))) (fun c_2 => ?_)
  refine lv_iload_n hx hb dX8_state_5 rfl (lv_at hl 1 rfl) ?_
  refine lv_sipush (v := 8192) hx hb dX8_state_6 (by decide) ?_
  refine lv_icmp_lt (tgt := 16) hx hb dX8_state_9 (by decide) (fun c_9 => ?_) (fun c_9 => absurd (nI_lt hn0 (by decide)) c_9)
  refine lv_iconst (v := 0) hx hb dX8_state_16 (by decide) ?_
  refine va_put (D := (dC, dI)) (ci := 7) (v := .int 0) (ty := .int) (C := RX8) (T := TX8) (N := 31) hx hb hts hiX8 tyX8 tyX8_ok nmX8 hown hK hP hD hS 0 rfl rfl 0 (by decide) (hts (.fieldLink RX8 48 "RefineRegionsModel" "thrown" "I") (by decide +kernel)) (fun _ h9 => h9) rfl (by decide +kernel) rfl rfl (Nat.le_of_ble_eq_true rfl) dX8_state_17 (fun H locs hP hD hS => ?_)
  have hP : va_P (dC, dI) vwCl [(m0, .inr (7, [.int 0, .ref m1, .int (nI w), .int (nI h), .int tp, .int ty, .ref m2, .ref m3, .int sf, .int rdg, .int rt, .int (nI rwd), .int (nI rht), .ref m4, .int dx, .int dy, .int p0, .int q0, .int p1, .int q1, .int kp, .ref m5, .ref m6, .int (nI k), .int (nI sk), .int (nI tr), .int (nI co), .long ma, .long mc, .int mt, .int (nI b)])), (m5, .inl (cI, 16384, .inl (sp_cat SW SR)))] H := hP
  have hD : va_D A [(m0, .inr (7, [.int 0, .ref m1, .int (nI w), .int (nI h), .int tp, .int ty, .ref m2, .ref m3, .int sf, .int rdg, .int rt, .int (nI rwd), .int (nI rht), .ref m4, .int dx, .int dy, .int p0, .int q0, .int p1, .int q1, .int kp, .ref m5, .ref m6, .int (nI k), .int (nI sk), .int (nI tr), .int (nI co), .long ma, .long mc, .int mt, .int (nI b)])), (m5, .inl (cI, 16384, .inl (sp_cat SW SR)))] := hD
  refine lv_aload_n hx hb dX8_state_20 rfl (lv_at hl 0 rfl) ?_
  refine va_get (D := (dC, dI)) (ci := 7) (v := .int 0) (C := RX8) (T := TX8) (N := 31) hx hb hts hiX8 hown hK hP 0 rfl rfl 0 (by decide) (hts (.fieldLink RX8 48 "RefineRegionsModel" "thrown" "I") (by decide +kernel)) (fun _ h9 => h9) rfl dX8_state_21 ?_
  refine lv_if_le (tgt := 31) hx hb dX8_state_24 (by decide) (fun _ => ?_) (fun c9 => absurd (by decide) c9)
  refine lv_aload_n hx hb dX8_state_31 rfl (lv_at hl 0 rfl) ?_
  refine va_get (D := (dC, dI)) (ci := 7) (v := .ref m5) (C := RX8) (T := TX8) (N := 31) hx hb hts hiX8 hown hK hP 0 rfl rfl 21 (by decide) (hts (.fieldLink RX8 42 "RefineRegionsModel" "states" "[I") (by decide +kernel)) (fun _ h9 => h9) rfl dX8_state_32 ?_
  refine lv_iload_n hx hb dX8_state_35 rfl (lv_at hl 2 rfl) ?_
  refine lv_if_eq (tgt := 47) hx hb dX8_state_36 (by decide) (fun c_36 => ?_) (fun c_36 => ?_)
  · refine lv_iload_n hx hb dX8_state_47 rfl (lv_at hl 1 rfl) ?_
    refine va_iald hx hb hK hP 1 0 rfl rfl (vp_in_nI (by omega) (by decide)) dX8_state_48 ?_
    refine hw_i (y := nI (SW n)) (by rw [nI_clamp (by omega)]; exact sp_cat_w _ _ hn0) ?_
    have hP9 := hP
    have hD9 := hD
    exact W.iret (v := nI (SW n)) hx hb hr (fun t ht hW => ⟨⟨nI (SW n), (), rfl, by rw [sp_z_0.mp c_36]; rfl, by rw [ht]; exact hP9, va_K.moved hW.alike hK, hD9⟩, hS.F ht⟩) hS.2.2 dX8_state_49
  · refine lv_sipush (v := 8192) hx hb dX8_state_39 (by decide) ?_
    refine lv_iload_n hx hb dX8_state_42 rfl (lv_at hl 1 rfl) ?_
    refine lv_iadd hx hb dX8_state_43 ?_
    refine hw_i (y := nI (8192 + n)) (nI_add 8192 _) ?_
    refine lv_goto (tgt := 48) hx hb dX8_state_44 (by decide) ?_
    refine va_iald hx hb hK hP 1 0 rfl rfl (vp_in_nI (by omega) (by decide)) dX8_state_48 ?_
    refine hw_i (y := nI (SR n)) (by rw [nI_clamp (by omega)]; exact sp_cat_r _ _ _) ?_
    have hP9 := hP
    have hD9 := hD
    exact W.iret (v := nI (SR n)) hx hb hr (fun t ht hW => ⟨⟨nI (SR n), (), rfl, by rw [sp_z_1 c_36]; rfl, by rw [ht]; exact hP9, va_K.moved hW.alike hK, hD9⟩, hS.F ht⟩) hS.2.2 dX8_state_49

set_option maxHeartbeats 4000000 in
set_option maxRecDepth 100000 in
/-- state, refused -/
theorem c_X8_state_no (l : Launch) (dC : Nat → ClassId) (dI : Nat → Nat → Nat) (cI cZ cJ : ClassId) (m0 : Nat) (m1 : Nat) (m2 : Nat) (m3 : Nat) (m4 : Nat) (m5 : Nat) (m6 : Nat) (th : Int32) (tp : Int32) (ty : Int32) (sf : Int32) (rdg : Int32) (rt : Int32) (dx : Int32) (dy : Int32) (p0 : Int32) (q0 : Int32) (p1 : Int32) (q1 : Int32) (kp : Int32) (w : Nat) (h : Nat) (rwd : Nat) (rht : Nat) (k : Nat) (sk : Nat) (tr : Nat) (co : Nat) (b : Nat) (ma : Int64) (mc : Int64) (mt : Int32) (x : Int32) (bb : Bool) (hno : sp_iw x 0 8191 = 0) (sz : Nat) : Met l yX8_state wsX8_state ({ frames := 0, cells := 0, slots := 0, locals := 0 }) (hw_Pre (dC, dI) vwCl (ty3 cI cZ cJ) [(m0, .inr (7, [.int th, .ref m1, .int (nI w), .int (nI h), .int tp, .int ty, .ref m2, .ref m3, .int sf, .int rdg, .int rt, .int (nI rwd), .int (nI rht), .ref m4, .int dx, .int dy, .int p0, .int q0, .int p1, .int q1, .int kp, .ref m5, .ref m6, .int (nI k), .int (nI sk), .int (nI tr), .int (nI co), .long ma, .long mc, .int mt, .int (nI b)]))] sz [.ref m0, .int x, .int (sp_z bb)]) (va_Qi (fun (r : Int32) (_ : Unit) => r = 0) (hw_at (dC, dI) vwCl (ty3 cI cZ cJ) (fun _ : Unit => [(m0, .inr (7, [.int 1, .ref m1, .int (nI w), .int (nI h), .int tp, .int ty, .ref m2, .ref m3, .int sf, .int rdg, .int rt, .int (nI rwd), .int (nI rht), .ref m4, .int dx, .int dy, .int p0, .int q0, .int p1, .int q1, .int kp, .ref m5, .ref m6, .int (nI k), .int (nI sk), .int (nI tr), .int (nI co), .long ma, .long mc, .int mt, .int (nI b)]))]) (va_A [(m0, .inr (7, [.int th, .ref m1, .int (nI w), .int (nI h), .int tp, .int ty, .ref m2, .ref m3, .int sf, .int rdg, .int rt, .int (nI rwd), .int (nI rht), .ref m4, .int dx, .int dy, .int p0, .int q0, .int p1, .int q1, .int kp, .ref m5, .ref m6, .int (nI k), .int (nI sk), .int (nI tr), .int (nI co), .long ma, .long mc, .int mt, .int (nI b)]))] sz)) (va_A [(m0, .inr (7, [.int th, .ref m1, .int (nI w), .int (nI h), .int tp, .int ty, .ref m2, .ref m3, .int sf, .int rdg, .int rt, .int (nI rwd), .int (nI rht), .ref m4, .int dx, .int dy, .int p0, .int q0, .int p1, .int q1, .int kp, .ref m5, .ref m6, .int (nI k), .int (nI sk), .int (nI tr), .int (nI co), .long ma, .long mc, .int mt, .int (nI b)]))] sz)) 0 0 (va_A [(m0, .inr (7, [.int th, .ref m1, .int (nI w), .int (nI h), .int tp, .int ty, .ref m2, .ref m3, .int sf, .int rdg, .int rt, .int (nI rwd), .int (nI rht), .ref m4, .int dx, .int dy, .int p0, .int q0, .int p1, .int q1, .int kp, .ref m5, .ref m6, .int (nI k), .int (nI sk), .int (nI tr), .int (nI co), .long ma, .long mc, .int mt, .int (nI b)]))] sz) := by
  refine Met.ofW (cc := cX8_state) (maxL := 3) (ret := (some .int)) (by decide) rfl ?_
  intro pg ev s m args below meth cd s₁ B hml hv
  obtain ⟨rfl, hsz, hP, hK, hN, hZ, hD0⟩ := hv
  have hx := B.exec
  have hb := B.bytes
  have hr := B.returns
  have hts := atoms_spec (ws := wsX8_state) B.pre
  have hown : s.vm.findClass RX8 = some m.cls := findClass_of_methodNamed B.named
  have hlocks := B.notSynchronized
  subst hsz
  have hD := hD0.self (sz := s.heap.size)
  generalize hAe : va_A [(m0, .inr (7, [.int th, .ref m1, .int (nI w), .int (nI h), .int tp, .int ty, .ref m2, .ref m3, .int sf, .int rdg, .int rt, .int (nI rwd), .int (nI rht), .ref m4, .int dx, .int dy, .int p0, .int q0, .int p1, .int q1, .int kp, .ref m5, .ref m6, .int (nI k), .int (nI sk), .int (nI tr), .int (nI co), .long ma, .long mc, .int mt, .int (nI b)]))] s.heap.size = A at hD hZ ⊢
  have hA : ∀ q : Nat, s.heap.size ≤ q → A q := fun q h => by rw [← hAe]; exact Or.inr h
  have hS : va_S A s.heap s.heap [] := va_S.rf
  have hk : hw_K (dC, dI) vwCl (ty3 cI cZ cJ) A s := ⟨hK, hN, hZ⟩
  have hiX8 : ∀ w ∈ u_ws RX8 TX8 31, w ∈ wsX8_state := by decide +kernel
  have hl := lv_entry ([.ref m0, .int x, .int (sp_z bb)]) (n := 3) (Nat.le_of_ble_eq_true rfl)
  rw [lg_entry_eq]
  generalize (lg_sl ([.ref m0, .int x, .int (sp_z bb)]) ++ List.replicate (3 - (lg_sl ([.ref m0, .int x, .int (sp_z bb)])).length) Slot.unset).toArray = ls at hl ⊢
  have hl : lv_has ls 3 [(0, .ref m0), (1, .int x), (2, .int (sp_z bb))] := hl
  refine lv_aload_n hx hb dX8_state_0 rfl (lv_at hl 0 rfl) ?_
  refine lv_iload_n hx hb dX8_state_1 rfl (lv_at hl 1 rfl) ?_
  refine lv_if_lt (tgt := 12) hx hb dX8_state_2 (by decide) (fun c_2 => ?_) (fun c_2 => ?_)
  · refine lv_iconst (v := 1) hx hb dX8_state_12 (by decide) ?_
    refine lv_goto (tgt := 17) hx hb dX8_state_13 (by decide) ?_
    refine va_put (D := (dC, dI)) (ci := 7) (v := .int 1) (ty := .int) (C := RX8) (T := TX8) (N := 31) hx hb hts hiX8 tyX8 tyX8_ok nmX8 hown hK hP hD hS 0 rfl rfl 0 (by decide) (hts (.fieldLink RX8 48 "RefineRegionsModel" "thrown" "I") (by decide +kernel)) (fun _ h9 => h9) rfl (by decide +kernel) rfl rfl (Nat.le_of_ble_eq_true rfl) dX8_state_17 (fun H locs hP hD hS => ?_)
    have hP : va_P (dC, dI) vwCl [(m0, .inr (7, [.int 1, .ref m1, .int (nI w), .int (nI h), .int tp, .int ty, .ref m2, .ref m3, .int sf, .int rdg, .int rt, .int (nI rwd), .int (nI rht), .ref m4, .int dx, .int dy, .int p0, .int q0, .int p1, .int q1, .int kp, .ref m5, .ref m6, .int (nI k), .int (nI sk), .int (nI tr), .int (nI co), .long ma, .long mc, .int mt, .int (nI b)]))] H := hP
    have hD : va_D A [(m0, .inr (7, [.int 1, .ref m1, .int (nI w), .int (nI h), .int tp, .int ty, .ref m2, .ref m3, .int sf, .int rdg, .int rt, .int (nI rwd), .int (nI rht), .ref m4, .int dx, .int dy, .int p0, .int q0, .int p1, .int q1, .int kp, .ref m5, .ref m6, .int (nI k), .int (nI sk), .int (nI tr), .int (nI co), .long ma, .long mc, .int mt, .int (nI b)]))] := hD
    refine lv_aload_n hx hb dX8_state_20 rfl (lv_at hl 0 rfl) ?_
    refine va_get (D := (dC, dI)) (ci := 7) (v := .int 1) (C := RX8) (T := TX8) (N := 31) hx hb hts hiX8 hown hK hP 0 rfl rfl 0 (by decide) (hts (.fieldLink RX8 48 "RefineRegionsModel" "thrown" "I") (by decide +kernel)) (fun _ h9 => h9) rfl dX8_state_21 ?_
    refine lv_if_le (tgt := 31) hx hb dX8_state_24 (by decide) (fun c9 => absurd c9 (by decide)) (fun _ => ?_)
    refine lv_iconst (v := 0) hx hb dX8_state_27 (by decide) ?_
    refine lv_goto (tgt := 49) hx hb dX8_state_28 (by decide) ?_
    have hP9 := hP
    have hD9 := hD
    exact W.iret (v := 0) hx hb hr (fun t ht hW => ⟨⟨0, (), rfl, rfl, by rw [ht]; exact hP9, va_K.moved hW.alike hK, hD9⟩, hS.F ht⟩) hS.2.2 dX8_state_49
  · refine lv_iload_n hx hb dX8_state_5 rfl (lv_at hl 1 rfl) ?_
    refine lv_sipush (v := 8192) hx hb dX8_state_6 (by decide) ?_
    refine lv_icmp_lt (tgt := 16) hx hb dX8_state_9 (by decide) (fun c_9 => absurd c_9 (fun h9 => sp_iw_f hno c_2 (fun z => absurd h9 (Int32.not_lt.mpr (sp_8191 z))))) (fun c_9 => ?_)
    refine lv_iconst (v := 1) hx hb dX8_state_12 (by decide) ?_
    refine lv_goto (tgt := 17) hx hb dX8_state_13 (by decide) ?_
    refine va_put (D := (dC, dI)) (ci := 7) (v := .int 1) (ty := .int) (C := RX8) (T := TX8) (N := 31) hx hb hts hiX8 tyX8 tyX8_ok nmX8 hown hK hP hD hS 0 rfl rfl 0 (by decide) (hts (.fieldLink RX8 48 "RefineRegionsModel" "thrown" "I") (by decide +kernel)) (fun _ h9 => h9) rfl (by decide +kernel) rfl rfl (Nat.le_of_ble_eq_true rfl) dX8_state_17 (fun H locs hP hD hS => ?_)
    have hP : va_P (dC, dI) vwCl [(m0, .inr (7, [.int 1, .ref m1, .int (nI w), .int (nI h), .int tp, .int ty, .ref m2, .ref m3, .int sf, .int rdg, .int rt, .int (nI rwd), .int (nI rht), .ref m4, .int dx, .int dy, .int p0, .int q0, .int p1, .int q1, .int kp, .ref m5, .ref m6, .int (nI k), .int (nI sk), .int (nI tr), .int (nI co), .long ma, .long mc, .int mt, .int (nI b)]))] H := hP
    have hD : va_D A [(m0, .inr (7, [.int 1, .ref m1, .int (nI w), .int (nI h), .int tp, .int ty, .ref m2, .ref m3, .int sf, .int rdg, .int rt, .int (nI rwd), .int (nI rht), .ref m4, .int dx, .int dy, .int p0, .int q0, .int p1, .int q1, .int kp, .ref m5, .ref m6, .int (nI k), .int (nI sk), .int (nI tr), .int (nI co), .long ma, .long mc, .int mt, .int (nI b)]))] := hD
    refine lv_aload_n hx hb dX8_state_20 rfl (lv_at hl 0 rfl) ?_
    refine va_get (D := (dC, dI)) (ci := 7) (v := .int 1) (C := RX8) (T := TX8) (N := 31) hx hb hts hiX8 hown hK hP 0 rfl rfl 0 (by decide) (hts (.fieldLink RX8 48 "RefineRegionsModel" "thrown" "I") (by decide +kernel)) (fun _ h9 => h9) rfl dX8_state_21 ?_
    refine lv_if_le (tgt := 31) hx hb dX8_state_24 (by decide) (fun c9 => absurd c9 (by decide)) (fun _ => ?_)
    refine lv_iconst (v := 0) hx hb dX8_state_27 (by decide) ?_
    refine lv_goto (tgt := 49) hx hb dX8_state_28 (by decide) ?_
    have hP9 := hP
    have hD9 := hD
    exact W.iret (v := 0) hx hb hr (fun t ht hW => ⟨⟨0, (), rfl, rfl, by rw [ht]; exact hP9, va_K.moved hW.alike hK, hD9⟩, hS.F ht⟩) hS.2.2 dX8_state_49

set_option maxHeartbeats 4000000 in
set_option maxRecDepth 100000 in
/-- encode(), no reference -/
theorem c_X8_encode_no (l : Launch) (dC : Nat → ClassId) (dI : Nat → Nat → Nat) (cI cZ cJ : ClassId) (m0 : Nat) (m1 : Nat) (m2 : Nat) (m3 : Nat) (m4 : Nat) (m5 : Nat) (m6 : Nat) (th : Int32) (tp : Int32) (ty : Int32) (sf : Int32) (rdg : Int32) (dx : Int32) (dy : Int32) (p0 : Int32) (q0 : Int32) (p1 : Int32) (q1 : Int32) (kp : Int32) (w : Nat) (h : Nat) (rwd : Nat) (rht : Nat) (k : Nat) (sk : Nat) (tr : Nat) (co : Nat) (b : Nat) (ma : Int64) (mc : Int64) (mt : Int32) (sz : Nat) : Met l yX8_encode wsX8_encode ({ frames := 0, cells := 0, slots := 0, locals := 0 }) (hw_Pre (dC, dI) vwCl (ty3 cI cZ cJ) [(m0, .inr (7, [.int th, .ref m1, .int (nI w), .int (nI h), .int tp, .int ty, .ref m2, .ref m3, .int sf, .int rdg, .int 0, .int (nI rwd), .int (nI rht), .ref m4, .int dx, .int dy, .int p0, .int q0, .int p1, .int q1, .int kp, .ref m5, .ref m6, .int (nI k), .int (nI sk), .int (nI tr), .int (nI co), .long ma, .long mc, .int mt, .int (nI b)]))] sz [.ref m0]) (va_Qi (fun (r : Int32) (_ : Unit) => r = 0) (hw_at (dC, dI) vwCl (ty3 cI cZ cJ) (fun _ : Unit => [(m0, .inr (7, [.int 1, .ref m1, .int (nI w), .int (nI h), .int tp, .int ty, .ref m2, .ref m3, .int sf, .int rdg, .int 0, .int (nI rwd), .int (nI rht), .ref m4, .int dx, .int dy, .int p0, .int q0, .int p1, .int q1, .int kp, .ref m5, .ref m6, .int (nI k), .int (nI sk), .int (nI tr), .int (nI co), .long ma, .long mc, .int mt, .int (nI b)]))]) (va_A [(m0, .inr (7, [.int th, .ref m1, .int (nI w), .int (nI h), .int tp, .int ty, .ref m2, .ref m3, .int sf, .int rdg, .int 0, .int (nI rwd), .int (nI rht), .ref m4, .int dx, .int dy, .int p0, .int q0, .int p1, .int q1, .int kp, .ref m5, .ref m6, .int (nI k), .int (nI sk), .int (nI tr), .int (nI co), .long ma, .long mc, .int mt, .int (nI b)]))] sz)) (va_A [(m0, .inr (7, [.int th, .ref m1, .int (nI w), .int (nI h), .int tp, .int ty, .ref m2, .ref m3, .int sf, .int rdg, .int 0, .int (nI rwd), .int (nI rht), .ref m4, .int dx, .int dy, .int p0, .int q0, .int p1, .int q1, .int kp, .ref m5, .ref m6, .int (nI k), .int (nI sk), .int (nI tr), .int (nI co), .long ma, .long mc, .int mt, .int (nI b)]))] sz)) 0 0 (va_A [(m0, .inr (7, [.int th, .ref m1, .int (nI w), .int (nI h), .int tp, .int ty, .ref m2, .ref m3, .int sf, .int rdg, .int 0, .int (nI rwd), .int (nI rht), .ref m4, .int dx, .int dy, .int p0, .int q0, .int p1, .int q1, .int kp, .ref m5, .ref m6, .int (nI k), .int (nI sk), .int (nI tr), .int (nI co), .long ma, .long mc, .int mt, .int (nI b)]))] sz) := by
  refine Met.ofW (cc := cX8_encode) (maxL := 4) (ret := (some .int)) (by decide) rfl ?_
  intro pg ev s m args below meth cd s₁ B hml hv
  obtain ⟨rfl, hsz, hP, hK, hN, hZ, hD0⟩ := hv
  have hx := B.exec
  have hb := B.bytes
  have hr := B.returns
  have hts := atoms_spec (ws := wsX8_encode) B.pre
  have hown : s.vm.findClass RX8 = some m.cls := findClass_of_methodNamed B.named
  have hlocks := B.notSynchronized
  subst hsz
  have hD := hD0.self (sz := s.heap.size)
  generalize hAe : va_A [(m0, .inr (7, [.int th, .ref m1, .int (nI w), .int (nI h), .int tp, .int ty, .ref m2, .ref m3, .int sf, .int rdg, .int 0, .int (nI rwd), .int (nI rht), .ref m4, .int dx, .int dy, .int p0, .int q0, .int p1, .int q1, .int kp, .ref m5, .ref m6, .int (nI k), .int (nI sk), .int (nI tr), .int (nI co), .long ma, .long mc, .int mt, .int (nI b)]))] s.heap.size = A at hD hZ ⊢
  have hA : ∀ q : Nat, s.heap.size ≤ q → A q := fun q h => by rw [← hAe]; exact Or.inr h
  have hS : va_S A s.heap s.heap [] := va_S.rf
  have hk : hw_K (dC, dI) vwCl (ty3 cI cZ cJ) A s := ⟨hK, hN, hZ⟩
  have hiX8 : ∀ w ∈ u_ws RX8 TX8 31, w ∈ wsX8_encode := by decide +kernel
  have hl := lv_entry ([.ref m0]) (n := 4) (Nat.le_of_ble_eq_true rfl)
  rw [lg_entry_eq]
  generalize (lg_sl ([.ref m0]) ++ List.replicate (4 - (lg_sl ([.ref m0])).length) Slot.unset).toArray = ls at hl ⊢
  have hl : lv_has ls 4 [(0, .ref m0)] := hl
  refine lv_aload_n hx hb dX8_encode_0 rfl (lv_at hl 0 rfl) ?_
  refine lv_aload_n hx hb dX8_encode_1 rfl (lv_at hl 0 rfl) ?_
  refine va_get (D := (dC, dI)) (ci := 7) (v := .int 0) (C := RX8) (T := TX8) (N := 31) hx hb hts hiX8 hown hK hP 0 rfl rfl 10 (by decide) (hts (.fieldLink RX8 65 "RefineRegionsModel" "hasReference" "Z") (by decide +kernel)) (fun _ h9 => h9) rfl dX8_encode_2 ?_
  refine lv_if_eq (tgt := 12) hx hb dX8_encode_5 (by decide) (fun _ => ?_) (fun c9 => absurd (by decide) c9)
  refine lv_iconst (v := 1) hx hb dX8_encode_12 (by decide) ?_
  refine va_put (D := (dC, dI)) (ci := 7) (v := .int 1) (ty := .int) (C := RX8) (T := TX8) (N := 31) hx hb hts hiX8 tyX8 tyX8_ok nmX8 hown hK hP hD hS 0 rfl rfl 0 (by decide) (hts (.fieldLink RX8 48 "RefineRegionsModel" "thrown" "I") (by decide +kernel)) (fun _ h9 => h9) rfl (by decide +kernel) rfl rfl (Nat.le_of_ble_eq_true rfl) dX8_encode_13 (fun H locs hP hD hS => ?_)
  have hP : va_P (dC, dI) vwCl [(m0, .inr (7, [.int 1, .ref m1, .int (nI w), .int (nI h), .int tp, .int ty, .ref m2, .ref m3, .int sf, .int rdg, .int 0, .int (nI rwd), .int (nI rht), .ref m4, .int dx, .int dy, .int p0, .int q0, .int p1, .int q1, .int kp, .ref m5, .ref m6, .int (nI k), .int (nI sk), .int (nI tr), .int (nI co), .long ma, .long mc, .int mt, .int (nI b)]))] H := hP
  have hD : va_D A [(m0, .inr (7, [.int 1, .ref m1, .int (nI w), .int (nI h), .int tp, .int ty, .ref m2, .ref m3, .int sf, .int rdg, .int 0, .int (nI rwd), .int (nI rht), .ref m4, .int dx, .int dy, .int p0, .int q0, .int p1, .int q1, .int kp, .ref m5, .ref m6, .int (nI k), .int (nI sk), .int (nI tr), .int (nI co), .long ma, .long mc, .int mt, .int (nI b)]))] := hD
  refine lv_aload_n hx hb dX8_encode_16 rfl (lv_at hl 0 rfl) ?_
  refine va_get (D := (dC, dI)) (ci := 7) (v := .int 1) (C := RX8) (T := TX8) (N := 31) hx hb hts hiX8 hown hK hP 0 rfl rfl 0 (by decide) (hts (.fieldLink RX8 48 "RefineRegionsModel" "thrown" "I") (by decide +kernel)) (fun _ h9 => h9) rfl dX8_encode_17 ?_
  refine lv_if_le (tgt := 25) hx hb dX8_encode_20 (by decide) (fun c9 => absurd c9 (by decide)) (fun _ => ?_)
  refine lv_iconst (v := 0) hx hb dX8_encode_23 (by decide) ?_
  have hP9 := hP
  have hD9 := hD
  exact W.iret (v := 0) hx hb hr (fun t ht hW => ⟨⟨0, (), rfl, rfl, by rw [ht]; exact hP9, va_K.moved hW.alike hK, hD9⟩, hS.F ht⟩) hS.2.2 dX8_encode_24

set_option maxHeartbeats 4000000 in
set_option maxRecDepth 100000 in
/-- decode(), no reference -/
theorem c_X8_decode_no (l : Launch) (dC : Nat → ClassId) (dI : Nat → Nat → Nat) (cI cZ cJ : ClassId) (m0 : Nat) (m1 : Nat) (m2 : Nat) (m3 : Nat) (m4 : Nat) (m5 : Nat) (m6 : Nat) (th : Int32) (tp : Int32) (ty : Int32) (sf : Int32) (rdg : Int32) (dx : Int32) (dy : Int32) (p0 : Int32) (q0 : Int32) (p1 : Int32) (q1 : Int32) (kp : Int32) (w : Nat) (h : Nat) (rwd : Nat) (rht : Nat) (k : Nat) (sk : Nat) (tr : Nat) (co : Nat) (b : Nat) (ma : Int64) (mc : Int64) (mt : Int32) (sz : Nat) : Met l yX8_decode wsX8_decode ({ frames := 0, cells := 0, slots := 0, locals := 0 }) (hw_Pre (dC, dI) vwCl (ty3 cI cZ cJ) [(m0, .inr (7, [.int th, .ref m1, .int (nI w), .int (nI h), .int tp, .int ty, .ref m2, .ref m3, .int sf, .int rdg, .int 0, .int (nI rwd), .int (nI rht), .ref m4, .int dx, .int dy, .int p0, .int q0, .int p1, .int q1, .int kp, .ref m5, .ref m6, .int (nI k), .int (nI sk), .int (nI tr), .int (nI co), .long ma, .long mc, .int mt, .int (nI b)]))] sz [.ref m0]) (va_Qi (fun (r : Int32) (_ : Unit) => r = 0) (hw_at (dC, dI) vwCl (ty3 cI cZ cJ) (fun _ : Unit => [(m0, .inr (7, [.int 1, .ref m1, .int (nI w), .int (nI h), .int tp, .int ty, .ref m2, .ref m3, .int sf, .int rdg, .int 0, .int (nI rwd), .int (nI rht), .ref m4, .int dx, .int dy, .int p0, .int q0, .int p1, .int q1, .int kp, .ref m5, .ref m6, .int (nI k), .int (nI sk), .int (nI tr), .int (nI co), .long ma, .long mc, .int mt, .int (nI b)]))]) (va_A [(m0, .inr (7, [.int th, .ref m1, .int (nI w), .int (nI h), .int tp, .int ty, .ref m2, .ref m3, .int sf, .int rdg, .int 0, .int (nI rwd), .int (nI rht), .ref m4, .int dx, .int dy, .int p0, .int q0, .int p1, .int q1, .int kp, .ref m5, .ref m6, .int (nI k), .int (nI sk), .int (nI tr), .int (nI co), .long ma, .long mc, .int mt, .int (nI b)]))] sz)) (va_A [(m0, .inr (7, [.int th, .ref m1, .int (nI w), .int (nI h), .int tp, .int ty, .ref m2, .ref m3, .int sf, .int rdg, .int 0, .int (nI rwd), .int (nI rht), .ref m4, .int dx, .int dy, .int p0, .int q0, .int p1, .int q1, .int kp, .ref m5, .ref m6, .int (nI k), .int (nI sk), .int (nI tr), .int (nI co), .long ma, .long mc, .int mt, .int (nI b)]))] sz)) 0 0 (va_A [(m0, .inr (7, [.int th, .ref m1, .int (nI w), .int (nI h), .int tp, .int ty, .ref m2, .ref m3, .int sf, .int rdg, .int 0, .int (nI rwd), .int (nI rht), .ref m4, .int dx, .int dy, .int p0, .int q0, .int p1, .int q1, .int kp, .ref m5, .ref m6, .int (nI k), .int (nI sk), .int (nI tr), .int (nI co), .long ma, .long mc, .int mt, .int (nI b)]))] sz) := by
  refine Met.ofW (cc := cX8_decode) (maxL := 6) (ret := (some .int)) (by decide) rfl ?_
  intro pg ev s m args below meth cd s₁ B hml hv
  obtain ⟨rfl, hsz, hP, hK, hN, hZ, hD0⟩ := hv
  have hx := B.exec
  have hb := B.bytes
  have hr := B.returns
  have hts := atoms_spec (ws := wsX8_decode) B.pre
  have hown : s.vm.findClass RX8 = some m.cls := findClass_of_methodNamed B.named
  have hlocks := B.notSynchronized
  subst hsz
  have hD := hD0.self (sz := s.heap.size)
  generalize hAe : va_A [(m0, .inr (7, [.int th, .ref m1, .int (nI w), .int (nI h), .int tp, .int ty, .ref m2, .ref m3, .int sf, .int rdg, .int 0, .int (nI rwd), .int (nI rht), .ref m4, .int dx, .int dy, .int p0, .int q0, .int p1, .int q1, .int kp, .ref m5, .ref m6, .int (nI k), .int (nI sk), .int (nI tr), .int (nI co), .long ma, .long mc, .int mt, .int (nI b)]))] s.heap.size = A at hD hZ ⊢
  have hA : ∀ q : Nat, s.heap.size ≤ q → A q := fun q h => by rw [← hAe]; exact Or.inr h
  have hS : va_S A s.heap s.heap [] := va_S.rf
  have hk : hw_K (dC, dI) vwCl (ty3 cI cZ cJ) A s := ⟨hK, hN, hZ⟩
  have hiX8 : ∀ w ∈ u_ws RX8 TX8 31, w ∈ wsX8_decode := by decide +kernel
  have hl := lv_entry ([.ref m0]) (n := 6) (Nat.le_of_ble_eq_true rfl)
  rw [lg_entry_eq]
  generalize (lg_sl ([.ref m0]) ++ List.replicate (6 - (lg_sl ([.ref m0])).length) Slot.unset).toArray = ls at hl ⊢
  have hl : lv_has ls 6 [(0, .ref m0)] := hl
  refine lv_aload_n hx hb dX8_decode_0 rfl (lv_at hl 0 rfl) ?_
  refine lv_aload_n hx hb dX8_decode_1 rfl (lv_at hl 0 rfl) ?_
  refine va_get (D := (dC, dI)) (ci := 7) (v := .int 0) (C := RX8) (T := TX8) (N := 31) hx hb hts hiX8 hown hK hP 0 rfl rfl 10 (by decide) (hts (.fieldLink RX8 65 "RefineRegionsModel" "hasReference" "Z") (by decide +kernel)) (fun _ h9 => h9) rfl dX8_decode_2 ?_
  refine lv_if_eq (tgt := 12) hx hb dX8_decode_5 (by decide) (fun _ => ?_) (fun c9 => absurd (by decide) c9)
  refine lv_iconst (v := 1) hx hb dX8_decode_12 (by decide) ?_
  refine va_put (D := (dC, dI)) (ci := 7) (v := .int 1) (ty := .int) (C := RX8) (T := TX8) (N := 31) hx hb hts hiX8 tyX8 tyX8_ok nmX8 hown hK hP hD hS 0 rfl rfl 0 (by decide) (hts (.fieldLink RX8 48 "RefineRegionsModel" "thrown" "I") (by decide +kernel)) (fun _ h9 => h9) rfl (by decide +kernel) rfl rfl (Nat.le_of_ble_eq_true rfl) dX8_decode_13 (fun H locs hP hD hS => ?_)
  have hP : va_P (dC, dI) vwCl [(m0, .inr (7, [.int 1, .ref m1, .int (nI w), .int (nI h), .int tp, .int ty, .ref m2, .ref m3, .int sf, .int rdg, .int 0, .int (nI rwd), .int (nI rht), .ref m4, .int dx, .int dy, .int p0, .int q0, .int p1, .int q1, .int kp, .ref m5, .ref m6, .int (nI k), .int (nI sk), .int (nI tr), .int (nI co), .long ma, .long mc, .int mt, .int (nI b)]))] H := hP
  have hD : va_D A [(m0, .inr (7, [.int 1, .ref m1, .int (nI w), .int (nI h), .int tp, .int ty, .ref m2, .ref m3, .int sf, .int rdg, .int 0, .int (nI rwd), .int (nI rht), .ref m4, .int dx, .int dy, .int p0, .int q0, .int p1, .int q1, .int kp, .ref m5, .ref m6, .int (nI k), .int (nI sk), .int (nI tr), .int (nI co), .long ma, .long mc, .int mt, .int (nI b)]))] := hD
  refine lv_aload_n hx hb dX8_decode_16 rfl (lv_at hl 0 rfl) ?_
  refine va_get (D := (dC, dI)) (ci := 7) (v := .int 1) (C := RX8) (T := TX8) (N := 31) hx hb hts hiX8 hown hK hP 0 rfl rfl 0 (by decide) (hts (.fieldLink RX8 48 "RefineRegionsModel" "thrown" "I") (by decide +kernel)) (fun _ h9 => h9) rfl dX8_decode_17 ?_
  refine lv_if_le (tgt := 25) hx hb dX8_decode_20 (by decide) (fun c9 => absurd c9 (by decide)) (fun _ => ?_)
  refine lv_iconst (v := 0) hx hb dX8_decode_23 (by decide) ?_
  have hP9 := hP
  have hD9 := hD
  exact W.iret (v := 0) hx hb hr (fun t ht hW => ⟨⟨0, (), rfl, rfl, by rw [ht]; exact hP9, va_K.moved hW.alike hK, hD9⟩, hS.F ht⟩) hS.2.2 dX8_decode_24
