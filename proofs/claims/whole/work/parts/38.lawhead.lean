-- pure facts about what stands between two calls
section SPL
theorem sp_iw_nat {v : Int32} {a b : Nat} (ha : a < 65536) (hb : b < 65536) (h : ¬ sp_iw v (nI a) (nI b) = 0) : ∃ n, v = nI n ∧ a ≤ n ∧ n ≤ b := by
  obtain ⟨h1, h2⟩ := sp_iw_ne.mp h
  rw [Int32.lt_iff_toInt_lt, nI_toInt (by omega)] at h1 h2
  refine ⟨v.toInt.toNat, ?_, by omega, by omega⟩
  apply Int32.toInt_inj.mp
  rw [nI_toInt (by omega)]
  omega
theorem sp_iw_y {v a b : Int32} (h : ¬ sp_iw v a b = 0) : sp_iw v a b = 1 := (sp_iw_01 v a b).resolve_left h
theorem sp_iw_t {v : Int32} (h : sp_iw v 0 1 = 1) : v = 0 ∨ v = 1 := by
  obtain ⟨n, e, _, h2⟩ := sp_iw_nat (v := v) (a := 0) (b := 1) (by decide) (by decide) (fun q => absurd (q.symm.trans h) (by decide))
  rcases (show n = 0 ∨ n = 1 by omega) with rfl | rfl
  · exact Or.inl e
  · exact Or.inr e
theorem sp_fin_k (w : sp_W) : (sp_fin w).1 ≤ w.2.2.2.1 + 4 := by
  have h : (sp_f2 w).2.2.1 = w.2.2.2.1 + 1 + 1 := ((sp_bo_in _ _ _).2).trans (congrArg (· + 1) (sp_bo_in _ _ _).2)
  unfold sp_fin
  split
  · show (sp_f2 w).2.2.1 + 1 ≤ _
    omega
  · show (sp_f2 w).2.2.1 + 1 + 1 ≤ _
    omega
theorem sp_enc_k {m : Nat} {e : sp_E} (h : sp_EI m e) (hm : m ≤ 1640) : (sp_fin (e.1.1, e.1.2.1, e.1.2.2.1, e.1.2.2.2.1, e.1.2.2.2.2)).1 ≤ 4096 := by
  have h1 := h.1.2.2.2.1
  have h2 := h.1.2.2.2.2.2.2
  have h3 := h.2.2.2
  have h4 : (sp_fin (e.1.1, e.1.2.1, e.1.2.2.1, e.1.2.2.2.1, e.1.2.2.2.2)).1 ≤ e.1.2.2.2.1 + 4 := sp_fin_k _
  omega
theorem sp_fp_FI {k : Nat} {f : Nat → Int32} {ty : Bool} {rc : Nat} {cx : Nat → Nat → (Nat → Int32) → Nat} {nn : Nat → Nat → Bool} {nv : Nat → Nat → Int32} {pt : Nat → Nat → (Nat → Int32) → Int32 → (Nat → Int32)} {w : Nat} (hnv : ∀ (d : Bool) (y i : Nat), (d && nn y i) = true → nv y i = 0 ∨ nv y i = 1) (hpt : ∀ (y i : Nat) g b, sp_01 g → (b = 0 ∨ b = 1) → sp_01 (pt y i g b)) : ∀ (n y : Nat) (e : sp_F) (tr : Nat) (d : Bool), sp_FI k e → sp_FI k (sp_fp k f ty rc cx nn nv pt w n y e tr d).1 := by
  intro n
  induction n with
  | zero => intro y e tr d h; exact h
  | succ n ih =>
    intro y e tr d h
    exact ih (y + 1) _ _ _ (sp_fr_FI (fun i h9 => hnv _ y i h9) (hpt y) w 0 _ (sp_fh_FI h))
theorem sp_it_01 {s : Nat → (Nat → Int32) → (Nat → Int32)} (hs : ∀ i g, sp_01 g → sp_01 (s i g)) {g : Nat → Int32} (hg : sp_01 g) : ∀ n, sp_01 (sp_it s n g)
  | 0 => hg
  | n + 1 => hs n _ (sp_it_01 hs hg n)
theorem sp_it2_01 {s : Nat → Nat → (Nat → Int32) → (Nat → Int32)} (hs : ∀ i j g, sp_01 g → sp_01 (s i j g)) {w : Nat} {g : Nat → Int32} (hg : sp_01 g) : ∀ n, sp_01 (sp_it2 s w n g)
  | 0 => hg
  | n + 1 => sp_it_01 (fun i g h => hs i n g h) (sp_it2_01 hs hg n) w
theorem sp_at_eq {sf : Bool} {w h fw fh : Nat} {f : Nat → Int32} {x y : Int32} (hs : sf = true → fw = w ∧ fh = h) : sp_at sf (nI fw) (nI fh) f x y = sp_at sf (nI w) (nI h) f x y := by
  cases sf with
  | false => rw [sp_at_0 (Or.inl rfl), sp_at_0 (Or.inl rfl)]
  | true => obtain ⟨h1, h2⟩ := hs rfl; rw [h1, h2]
theorem lq_b0 {x : Int32} (h : x = 0) : lg_cmp x.toInt64 0 = 0 := by rw [h]; exact (lg_cmp_eq _ _).mpr (by decide)
theorem lq_b1 {x : Int32} (h : x = 0 ∨ x = 1) (h0 : ¬ x = 0) : lg_cmp x.toInt64 1 = 0 := by rw [h.resolve_left h0]; exact (lg_cmp_eq _ _).mpr (by decide)
end SPL
theorem lq_o {g : Nat → Int64} {v : Int64} {k : Nat} : vp_updL g k v k = v := if_pos rfl
theorem lq_ee (x : Int64) : lg_cmp x x = 0 := (lg_cmp_eq x x).mpr rfl
section LQB
variable {p : Program} {l : Launch} {e : Env} {R : Room} {s : State} {m : MethodId} {args : Array Value} {below : List Frame} {meth : Method} {c : Code} {H : Heap} {locs : List Loc} {cells slots : Nat} {Q : State → Prop} {ls : Array Slot} {rest : List Value} {cc : ByteArray} {pc : Nat}
/-- 'x != 0' as a number -/
theorem lq_bool (hx : p.tables.exec = Jvm.exec) (hb : c.code = cc) {x : Int32} (d0 : decode cc pc = .ok (.ifCond .eq 7, 3)) (d3 : decode cc (pc + 3) = .ok (.iconst 1, 1)) (d4 : decode cc (pc + 4) = .ok (.goto 4, 3)) (d7 : decode cc (pc + 7) = .ok (.iconst 0, 1))
    (kk : W p l e R s m args below meth c H locs cells slots Q (F0 m (pc + 8) ls (.int (sp_z (!decide (x = 0))) :: rest))) : W p l e R s m args below meth c H locs cells slots Q (F0 m pc ls (.int x :: rest)) := by
  refine lv_if_eq (tgt := pc + 7) hx hb d0 (by omega) (fun h => ?_) (fun h => ?_)
  · refine lv_iconst (v := 0) hx hb d7 (by decide) ?_
    rw [decide_eq_true h] at kk
    exact kk
  · refine lv_iconst (v := 1) hx hb d3 (by decide) ?_
    refine lv_goto (tgt := pc + 8) hx hb d4 (by omega) ?_
    rw [decide_eq_false h] at kk
    exact kk
end LQB
/-- between two calls: class and reference stand alike -/
def lq_Inv (dC : Nat → ClassId) (dI : Nat → Nat → Nat) (cI cZ cJ : ClassId) (hO : Nat) (a1 : Nat) (a2 : Nat) (a3 : Nat) (a4 : Nat) (a5 : Nat) (a6 : Nat) (a7 : Nat) (a8 : Nat) (a9 : Nat) (a10 : Nat) (a11 : Nat) (a12 : Nat) (a13 : Nat) (a14 : Nat) (a15 : Nat) (m0 : Nat) (m1 : Nat) (m2 : Nat) (m3 : Nat) (m4 : Nat) (m5 : Nat) (m6 : Nat) (ao : Nat) (A : Nat → Prop) (H : Heap) : Prop := ∃ (tb : Bool) (kb : Bool) (rtb : Bool) (sfb : Bool) (dx : Int32) (dy : Int32) (tp : Int32) (p0 : Int32) (q0 : Int32) (p1 : Int32) (q1 : Int32) (rl : Int32) (sk : Nat) (tr : Nat) (co : Nat) (w : Nat) (h : Nat) (fw : Nat) (fh : Nat) (rwd : Nat) (rht : Nat) (k : Nat) (wa : Nat) (wc : Nat) (wt : Nat) (ra : Nat) (b : Nat) (pf : Nat → Int32) (ff : Nat → Int32) (rg : Nat → Int32) (f : Nat → Int32) (rc : Int64) (SW : Nat → Nat) (SR : Nat → Nat) (th : Int32) (ma : Int64) (mc : Int64) (mt : Int32) (go : Nat → Int64), (1 ≤ w ∧ w ≤ 40) ∧ (1 ≤ h ∧ h ≤ 40) ∧ (rwd ≤ 60) ∧ (rht ≤ 60) ∧ (k ≤ 4096) ∧ (sp_01 pf) ∧ (sp_01 ff) ∧ (sp_01 rg) ∧ (∀ j, SW j < 94) ∧ (∀ j, SR j < 94) ∧ (tp = 0 ∨ tp = 1) ∧ (sfb = true → fw = w ∧ fh = h) ∧ (fw ≤ 40) ∧ (fh ≤ 40) ∧ va_P (dC, dI) vwCl [(hO, .inr (6, [.ref a1, .ref a3, .ref a5, .ref a8, .ref a10, .ref a13, .int (sp_z tb), .int (sp_z kb), .int (sp_z rtb), .int (sp_z sfb), .int (nI sk), .int (nI tr), .int (nI co)])), (a1, .inr (0, [.int (nI 40), .ref a2, .int (nI w), .int (nI h)])), (a2, .inl (cI, 40 * 40, .inl pf)), (a3, .inr (0, [.int (nI 40), .ref a4, .int (nI fw), .int (nI fh)])), (a4, .inl (cI, 40 * 40, .inl ff)), (a5, .inr (4, [.ref a6, .int dx, .int dy, .int tp, .int p0, .int q0, .int p1, .int q1])), (a6, .inr (0, [.int (nI 60), .ref a7, .int (nI rwd), .int (nI rht)])), (a7, .inl (cI, 60 * 60, .inl rg)), (a8, .inr (1, [.ref a9, .int (nI k)])), (a9, .inl (cI, 4096, .inl f)), (a10, .inr (5, [.ref a11, .ref a8, .int (nI wa), .int (nI wc), .int (nI wt)])), (a11, .inr (3, [.ref a12])), (a12, .inl (cI, 8192, .inl (fun j => nI (SW j)))), (a13, .inr (2, [.ref a14, .ref a8, .int (nI ra), .long rc, .int rl, .int (nI b)])), (a14, .inr (3, [.ref a15])), (a15, .inl (cI, 8192, .inl (fun j => nI (SR j)))), (m0, .inr (7, [.int th, .ref m1, .int (nI w), .int (nI h), .int tp, .int (sp_z tb), .ref m2, .ref m3, .int (sp_z sfb), .int 0, .int (sp_z rtb), .int (nI rwd), .int (nI rht), .ref m4, .int dx, .int dy, .int p0, .int q0, .int p1, .int q1, .int (sp_z kb), .ref m5, .ref m6, .int (nI k), .int (nI sk), .int (nI tr), .int (nI co), .long ma, .long mc, .int mt, .int (nI b)])), (m1, .inl (cI, 188, .inl (fun j => nI (sp_t j)))), (m2, .inl (cZ, 1600, .inl pf)), (m3, .inl (cZ, 1600, .inl ff)), (m4, .inl (cZ, 3600, .inl rg)), (m5, .inl (cI, 16384, .inl (sp_cat SW SR))), (m6, .inl (cI, 4200, .inl f)), (ao, .inl (cJ, 1, .inr (.inl go)))] H ∧ va_D A [(hO, .inr (6, [.ref a1, .ref a3, .ref a5, .ref a8, .ref a10, .ref a13, .int (sp_z tb), .int (sp_z kb), .int (sp_z rtb), .int (sp_z sfb), .int (nI sk), .int (nI tr), .int (nI co)])), (a1, .inr (0, [.int (nI 40), .ref a2, .int (nI w), .int (nI h)])), (a2, .inl (cI, 40 * 40, .inl pf)), (a3, .inr (0, [.int (nI 40), .ref a4, .int (nI fw), .int (nI fh)])), (a4, .inl (cI, 40 * 40, .inl ff)), (a5, .inr (4, [.ref a6, .int dx, .int dy, .int tp, .int p0, .int q0, .int p1, .int q1])), (a6, .inr (0, [.int (nI 60), .ref a7, .int (nI rwd), .int (nI rht)])), (a7, .inl (cI, 60 * 60, .inl rg)), (a8, .inr (1, [.ref a9, .int (nI k)])), (a9, .inl (cI, 4096, .inl f)), (a10, .inr (5, [.ref a11, .ref a8, .int (nI wa), .int (nI wc), .int (nI wt)])), (a11, .inr (3, [.ref a12])), (a12, .inl (cI, 8192, .inl (fun j => nI (SW j)))), (a13, .inr (2, [.ref a14, .ref a8, .int (nI ra), .long rc, .int rl, .int (nI b)])), (a14, .inr (3, [.ref a15])), (a15, .inl (cI, 8192, .inl (fun j => nI (SR j)))), (m0, .inr (7, [.int th, .ref m1, .int (nI w), .int (nI h), .int tp, .int (sp_z tb), .ref m2, .ref m3, .int (sp_z sfb), .int 0, .int (sp_z rtb), .int (nI rwd), .int (nI rht), .ref m4, .int dx, .int dy, .int p0, .int q0, .int p1, .int q1, .int (sp_z kb), .ref m5, .ref m6, .int (nI k), .int (nI sk), .int (nI tr), .int (nI co), .long ma, .long mc, .int mt, .int (nI b)])), (m1, .inl (cI, 188, .inl (fun j => nI (sp_t j)))), (m2, .inl (cZ, 1600, .inl pf)), (m3, .inl (cZ, 1600, .inl ff)), (m4, .inl (cZ, 3600, .inl rg)), (m5, .inl (cI, 16384, .inl (sp_cat SW SR))), (m6, .inl (cI, 4200, .inl f)), (ao, .inl (cJ, 1, .inr (.inl go)))]
/-- what holds all along the law's run -/
def lq_C (l : Launch) (pg : Program) (s : State) (m : MethodId) (cd : Code) (sb sL : Nat) (xs : Nat → Int32) (dC : Nat → ClassId) (dI : Nat → Nat → Nat) (cI cZ cJ : ClassId) (A : Nat → Prop) : Prop :=
  l.stackTraces = false ∧ pg.tables.exec = Jvm.exec ∧ cd.code = cL_law ∧ cd.maxLocals = 7 ∧ s.vm.findClass RL = some m.cls ∧ (∀ w ∈ wsL_law, w.before #[Value.ref sb] s = true) ∧ va_X sb sL xs s s.heap ∧ sb < s.heap.size ∧ ¬ A sb ∧ sL ≤ 2560 ∧ (∀ q : Nat, s.heap.size ≤ q → A q) ∧ hw_K (dC, dI) vwCl (ty3 cI cZ cJ) A s ∧ xt A s
/-- from the end of a case on -/
def lq_K (l : Launch) (pg : Program) (ev : Env) (s : State) (m : MethodId) (below : List Frame) (meth : Method) (cd : Code) (Q : State → Prop) (sb : Nat) (dC : Nat → ClassId) (dI : Nat → Nat → Nat) (cI cZ cJ : ClassId) (A : Nat → Prop) (hO : Nat) (a1 : Nat) (a2 : Nat) (a3 : Nat) (a4 : Nat) (a5 : Nat) (a6 : Nat) (a7 : Nat) (a8 : Nat) (a9 : Nat) (a10 : Nat) (a11 : Nat) (a12 : Nat) (a13 : Nat) (a14 : Nat) (a15 : Nat) (m0 : Nat) (m1 : Nat) (m2 : Nat) (m3 : Nat) (m4 : Nat) (m5 : Nat) (m6 : Nat) (ao : Nat) (i cells slots : Nat) : Prop :=
  ∀ (H : Heap) (locs : List Loc), lq_Inv dC dI cI cZ cJ hO a1 a2 a3 a4 a5 a6 a7 a8 a9 a10 a11 a12 a13 a14 a15 m0 m1 m2 m3 m4 m5 m6 ao A H → va_S A s.heap H locs → ∀ ls : Array Slot, lv_has ls 7 [(4, .int (nI i)), (0, .ref sb), (1, .ref hO), (2, .ref m0), (3, .ref ao)] → W pg l ev room_1 s m #[Value.ref sb] below meth cd H locs (cells + 1) (slots + 6) Q (F0 m 1093 ls [])
