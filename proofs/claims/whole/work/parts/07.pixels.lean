/-! PURE: pixels, contexts, the nine, rows -/
section SPP
/-- contents that are 0 or 1 -/
def sp_01 (f : Nat → Int32) : Prop := ∀ j, f j = 0 ∨ f j = 1
def sp_02 (g : Int32 → Int32 → Int32) : Prop := ∀ x y, g x y = 0 ∨ g x y = 1
theorem sp_01_0 : sp_01 (fun _ => 0) := fun _ => Or.inl rfl
theorem sp_01_up {f : Nat → Int32} {k : Nat} {x : Int32} (h : sp_01 f) (hx : x = 0 ∨ x = 1) : sp_01 (upd f k x) := by
  intro j
  unfold upd
  split
  · exact hx
  · exact h j
/-- a pixel of a bitmap: side sd, width w, height h; outside it is white -/
def sp_px (sd w h : Int32) (f : Nat → Int32) (x y : Int32) : Int32 := if x < 0 ∨ w ≤ x ∨ y < 0 ∨ h ≤ y then 0 else f (y * sd + x).toNatClampNeg
theorem sp_px_in {sd w h : Int32} {f : Nat → Int32} {x y : Int32} (h1 : ¬ x < 0) (h2 : ¬ w ≤ x) (h3 : ¬ y < 0) (h4 : ¬ h ≤ y) : sp_px sd w h f x y = f (y * sd + x).toNatClampNeg := by
  unfold sp_px
  rw [if_neg (by rintro (q | q | q | q) <;> contradiction)]
theorem sp_px_out {sd w h : Int32} {f : Nat → Int32} {x y : Int32} (hq : x < 0 ∨ w ≤ x ∨ y < 0 ∨ h ≤ y) : sp_px sd w h f x y = 0 := by
  unfold sp_px
  rw [if_pos hq]
theorem sp_px_02 {sd w h : Int32} {f : Nat → Int32} (hf : sp_01 f) : sp_02 (sp_px sd w h f) := by
  intro x y
  unfold sp_px
  split
  · exact Or.inl rfl
  · exact hf _
/-- an index within: side n of at most 60 -/
theorem sp_ix {n w h : Nat} {x y : Int32} (hn : n ≤ 60) (hw : w ≤ n) (hh : h ≤ n) (h1 : ¬ x < 0) (h2 : ¬ nI w ≤ x) (h3 : ¬ y < 0) (h4 : ¬ nI h ≤ y) :
    ∃ i j : Nat, i < w ∧ j < h ∧ x = nI i ∧ y = nI j ∧ y * nI n + x = nI (j * n + i) ∧ (y * nI n + x).toNatClampNeg = j * n + i ∧ j * n + i < n * n := by
  obtain ⟨i, hi, rfl⟩ := nI_of h1
  obtain ⟨j, hj, rfl⟩ := nI_of h3
  rw [nI_leI (by omega) hi] at h2
  rw [nI_leI (by omega) hj] at h4
  have e : nI j * nI n + nI i = nI (j * n + i) := by rw [pk_mul, nI_add]
  have hl : j * n + i < n * n := by
    have : (j + 1) * n ≤ n * n := Nat.mul_le_mul_right _ (by omega)
    rw [Nat.add_mul] at this
    omega
  have hb : n * n ≤ 3600 := by
    have := Nat.mul_le_mul hn hn
    omega
  exact ⟨i, j, by omega, by omega, rfl, rfl, e, by rw [e]; exact nI_clamp (by omega), hl⟩
theorem sp_ixin {n w h : Nat} {x y : Int32} (hn : n ≤ 60) (hw : w ≤ n) (hh : h ≤ n) (h1 : ¬ x < 0) (h2 : ¬ nI w ≤ x) (h3 : ¬ y < 0) (h4 : ¬ nI h ≤ y) : vp_in (y * nI n + x) (n * n) := by
  obtain ⟨i, j, hi, hj, rfl, rfl, e, -, hl⟩ := sp_ix hn hw hh h1 h2 h3 h4
  have hb : n * n ≤ 3600 := by
    have := Nat.mul_le_mul hn hn
    omega
  rw [e]
  exact vp_in_nI hl (by omega)
/-- is it a place of the bitmap -/
def sp_ho (w h x y : Int32) : Int32 := if x < 0 ∨ w ≤ x ∨ y < 0 ∨ h ≤ y then 0 else 1
theorem sp_ho_in {w h x y : Int32} (h1 : ¬ x < 0) (h2 : ¬ w ≤ x) (h3 : ¬ y < 0) (h4 : ¬ h ≤ y) : sp_ho w h x y = 1 := by
  unfold sp_ho
  rw [if_neg (by rintro (q | q | q | q) <;> contradiction)]
theorem sp_ho_out {w h x y : Int32} (hq : x < 0 ∨ w ≤ x ∨ y < 0 ∨ h ≤ y) : sp_ho w h x y = 0 := by
  unfold sp_ho
  rw [if_pos hq]
theorem sp_ho_no {w h x y : Int32} (c : ¬ sp_ho w h x y = 0) : ¬ (x < 0 ∨ w ≤ x ∨ y < 0 ∨ h ≤ y) := fun q => c (sp_ho_out q)
theorem sp_ho_01 (w h x y : Int32) : sp_ho w h x y = 0 ∨ sp_ho w h x y = 1 := by
  unfold sp_ho
  split
  · exact Or.inl rfl
  · exact Or.inr rfl
theorem sp_ho_ix {n w h : Nat} {x y : Int32} (hn : n ≤ 60) (hw : w ≤ n) (hh : h ≤ n) (c : ¬ sp_ho (nI w) (nI h) x y = 0) : vp_in (y * nI n + x) (n * n) := by
  have q := sp_ho_no c
  exact sp_ixin hn hw hh (fun z => q (Or.inl z)) (fun z => q (Or.inr (Or.inl z))) (fun z => q (Or.inr (Or.inr (Or.inl z)))) (fun z => q (Or.inr (Or.inr (Or.inr z))))
/-- a pixel is painted, where there is one -/
def sp_pt (sd w h : Int32) (f : Nat → Int32) (x y b : Int32) : Nat → Int32 := if sp_ho w h x y = 0 then f else upd f (y * sd + x).toNatClampNeg b
theorem sp_pt_in {sd w h : Int32} {f : Nat → Int32} {x y b : Int32} (c : ¬ sp_ho w h x y = 0) : sp_pt sd w h f x y b = upd f (y * sd + x).toNatClampNeg b := if_neg c
theorem sp_pt_out {sd w h : Int32} {f : Nat → Int32} {x y b : Int32} (c : sp_ho w h x y = 0) : sp_pt sd w h f x y b = f := if_pos c
theorem sp_fill {g : Nat → Int32} {v : Int32} {i : Nat} (hg : ∀ j, j < i → g j = v) (hi : i < 2 ^ 31) : ∀ j, j < i + 1 → upd g (nI i).toNatClampNeg v j = v := by
  intro j hj
  rw [nI_clamp hi]
  by_cases e : j = i
  · rw [e, pk_us]
  · rw [pk_un e]
    exact hg j (by omega)
/-- the reference's pixel at a place of the picture -/
def sp_rf (w h : Int32) (f : Nat → Int32) (dx dy x y : Int32) : Int32 := sp_px (nI 60) w h f (x - dx) (y - dy)
abbrev sp_sh (x k : Int32) : Int32 := x <<< (k &&& 31)
/-- the context of a pixel -/
def sp_cx0 (p0 q0 p1 q1 : Int32) (px rf : Int32 → Int32 → Int32) (x y : Int32) : Int32 :=
  sp_sh (px (x + p0) (y + q0)) 3 ||| sp_sh (rf (x + 1) (y + 1)) 4 ||| sp_sh (rf x (y + 1)) 5 ||| sp_sh (rf (x - 1) (y + 1)) 6 ||| sp_sh (rf (x + 1) y) 7 ||| sp_sh (rf x y) 8 ||| sp_sh (rf (x - 1) y) 9 ||| sp_sh (rf (x + 1) (y - 1)) 10 ||| sp_sh (rf x (y - 1)) 11 ||| sp_sh (rf (x + p1) (y + q1)) 12
def sp_cx1 (px rf : Int32 → Int32 → Int32) (x y : Int32) : Int32 :=
  sp_sh (px (x - 1) (y - 1)) 3 ||| sp_sh (rf (x + 1) (y + 1)) 4 ||| sp_sh (rf x (y + 1)) 5 ||| sp_sh (rf (x + 1) y) 6 ||| sp_sh (rf x y) 7 ||| sp_sh (rf (x - 1) y) 8 ||| sp_sh (rf x (y - 1)) 9
def sp_cb (px : Int32 → Int32 → Int32) (x y : Int32) : Int32 := px (x - 1) y ||| sp_sh (px (x + 1) (y - 1)) 1 ||| sp_sh (px x (y - 1)) 2
def sp_cx (tp p0 q0 p1 q1 : Int32) (px rf : Int32 → Int32 → Int32) (x y : Int32) : Int32 :=
  sp_cb px x y ||| (if tp = 0 then sp_cx0 p0 q0 p1 q1 px rf x y else sp_cx1 px rf x y)
def sp_lt (x : Int32) : Prop := x.toBitVec.toNat < 8192
theorem sp_lt_or {x y : Int32} (hx : sp_lt x) (hy : sp_lt y) : sp_lt (x ||| y) := by
  unfold sp_lt at *
  rw [Int32.toBitVec_or, BitVec.toNat_or]
  exact Nat.or_lt_two_pow (n := 13) hx hy
theorem sp_lt_sh {x : Int32} (h : x = 0 ∨ x = 1) : sp_lt x ∧ sp_lt (sp_sh x 1) ∧ sp_lt (sp_sh x 2) ∧ sp_lt (sp_sh x 3) ∧ sp_lt (sp_sh x 4) ∧ sp_lt (sp_sh x 5) ∧ sp_lt (sp_sh x 6) ∧ sp_lt (sp_sh x 7) ∧ sp_lt (sp_sh x 8) ∧ sp_lt (sp_sh x 9) ∧ sp_lt (sp_sh x 10) ∧ sp_lt (sp_sh x 11) ∧ sp_lt (sp_sh x 12) := by
  unfold sp_lt
  rcases h with rfl | rfl <;> decide +kernel
theorem sp_cx_lt {tp p0 q0 p1 q1 : Int32} {px rf : Int32 → Int32 → Int32} (hp : sp_02 px) (hr : sp_02 rf) (x y : Int32) : sp_lt (sp_cx tp p0 q0 p1 q1 px rf x y) := by
  have P := fun a b => sp_lt_sh (hp a b)
  have F := fun a b => sp_lt_sh (hr a b)
  unfold sp_cx
  refine sp_lt_or ?_ ?_
  · unfold sp_cb
    exact sp_lt_or (sp_lt_or (P _ _).1 (P _ _).2.1) (P _ _).2.2.1
  · split
    · unfold sp_cx0
      exact sp_lt_or (sp_lt_or (sp_lt_or (sp_lt_or (sp_lt_or (sp_lt_or (sp_lt_or (sp_lt_or (sp_lt_or (P _ _).2.2.2.1 (F _ _).2.2.2.2.1) (F _ _).2.2.2.2.2.1) (F _ _).2.2.2.2.2.2.1) (F _ _).2.2.2.2.2.2.2.1) (F _ _).2.2.2.2.2.2.2.2.1) (F _ _).2.2.2.2.2.2.2.2.2.1) (F _ _).2.2.2.2.2.2.2.2.2.2.1) (F _ _).2.2.2.2.2.2.2.2.2.2.2.1) (F _ _).2.2.2.2.2.2.2.2.2.2.2.2
    · unfold sp_cx1
      exact sp_lt_or (sp_lt_or (sp_lt_or (sp_lt_or (sp_lt_or (sp_lt_or (P _ _).2.2.2.1 (F _ _).2.2.2.2.1) (F _ _).2.2.2.2.2.1) (F _ _).2.2.2.2.2.2.1) (F _ _).2.2.2.2.2.2.2.1) (F _ _).2.2.2.2.2.2.2.2.1) (F _ _).2.2.2.2.2.2.2.2.2.1
theorem sp_lt_nI {x : Int32} (h : sp_lt x) : x = nI x.toBitVec.toNat := by
  apply Int32.toBitVec_inj.mp
  show x.toBitVec = BitVec.ofNat 32 x.toBitVec.toNat
  apply BitVec.eq_of_toNat_eq
  rw [BitVec.toNat_ofNat, Nat.mod_eq_of_lt x.toBitVec.isLt]
/-- the nine: what they all are, or -1 -/
def sp_nine (rf : Int32 → Int32 → Int32) (x y : Int32) : Int32 :=
  if rf (x + -1) (y + -1) = rf x y ∧ rf (x + 0) (y + -1) = rf x y ∧ rf (x + 1) (y + -1) = rf x y ∧ rf (x + -1) (y + 0) = rf x y ∧ rf (x + 0) (y + 0) = rf x y ∧ rf (x + 1) (y + 0) = rf x y ∧ rf (x + -1) (y + 1) = rf x y ∧ rf (x + 0) (y + 1) = rf x y ∧ rf (x + 1) (y + 1) = rf x y then rf x y else -1
theorem sp_nine_in {rf : Int32 → Int32 → Int32} (hr : sp_02 rf) (x y : Int32) : sp_nine rf x y = -1 ∨ sp_nine rf x y = 0 ∨ sp_nine rf x y = 1 := by
  unfold sp_nine
  split
  · exact Or.inr (hr x y)
  · exact Or.inl rfl
theorem sp_s9 : ∀ a b c d e f g h i : Bool, (if cond a (1 : Int32) 0 + cond b 1 0 + cond c 1 0 + cond d 1 0 + cond e 1 0 + cond f 1 0 + cond g 1 0 + cond h 1 0 + cond i 1 0 = 0 then (0 : Int32) else if cond a (1 : Int32) 0 + cond b 1 0 + cond c 1 0 + cond d 1 0 + cond e 1 0 + cond f 1 0 + cond g 1 0 + cond h 1 0 + cond i 1 0 = 9 then 1 else -1) = if a = e ∧ b = e ∧ c = e ∧ d = e ∧ f = e ∧ g = e ∧ h = e ∧ i = e then cond e 1 0 else -1 := by decide +kernel
def sp_z (b : Bool) : Int32 := cond b 1 0
theorem sp_z_01 (b : Bool) : sp_z b = 0 ∨ sp_z b = 1 := by cases b <;> decide
/-- a row could be typical: the nine agree nowhere with another pixel; the first n of it -/
def sp_agr (nine px : Int32 → Int32 → Int32) (y : Int32) : Nat → Bool
  | 0 => true
  | n + 1 => sp_agr nine px y n && (decide (nine (nI n) y = -1) || decide (nine (nI n) y = px (nI n) y))
theorem sp_agr_no {nine px : Int32 → Int32 → Int32} {y : Int32} {i : Nat} (h1 : ¬ nine (nI i) y = -1) (h2 : ¬ nine (nI i) y = px (nI i) y) : ∀ n, i < n → sp_agr nine px y n = false := by
  intro n
  induction n with
  | zero => intro h; omega
  | succ n ih =>
    intro h
    unfold sp_agr
    by_cases q : i = n
    · subst q
      simp [h1, h2]
    · rw [ih (by omega)]
      rfl
theorem sp_agr_yes {nine px : Int32 → Int32 → Int32} {y : Int32} : ∀ n, sp_agr nine px y n = true → ∀ i, i < n → nine (nI i) y = -1 ∨ nine (nI i) y = px (nI i) y := by
  intro n
  induction n with
  | zero => intro _ i h; omega
  | succ n ih =>
    intro h i hi
    unfold sp_agr at h
    rw [Bool.and_eq_true, Bool.or_eq_true] at h
    by_cases q : i = n
    · subst q
      exact h.2.imp of_decide_eq_true of_decide_eq_true
    · exact ih h.1 i (by omega)
end SPP
