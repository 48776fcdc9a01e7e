/-! PURE: a picture's rows are written, are read -/
section SPQ
def sp_n (x : Int32) : Nat := x.toBitVec.toNat
theorem sp_nn (x : Int32) : nI (sp_n x) = x := by
  apply Int32.toBitVec_inj.mp
  show BitVec.ofNat 32 x.toBitVec.toNat = x.toBitVec
  apply BitVec.eq_of_toNat_eq
  rw [BitVec.toNat_ofNat, Nat.mod_eq_of_lt x.toBitVec.isLt]
theorem sp_n2 {x : Int32} (h : x = 0 ∨ x = 1) : sp_n x < 2 := by
  rcases h with rfl | rfl <;> decide
theorem sp_nlt {x : Int32} (h : sp_lt x) : sp_n x < 8192 := h
theorem upd_self (f : Nat → Int32) (k : Nat) : upd f k (f k) = f := by
  funext j
  unfold upd
  split
  · rename_i h
    rw [h]
  · rfl
theorem sp_pt_same {sd w h : Int32} {f : Nat → Int32} {x y b : Int32} (hb : b = sp_px sd w h f x y) : sp_pt sd w h f x y b = f := by
  by_cases c : sp_ho w h x y = 0
  · exact sp_pt_out c
  · rw [sp_pt_in c, hb]
    have q := sp_ho_no c
    rw [sp_px_in (fun z => q (Or.inl z)) (fun z => q (Or.inr (Or.inl z))) (fun z => q (Or.inr (Or.inr (Or.inl z)))) (fun z => q (Or.inr (Or.inr (Or.inr z))))]
    exact upd_self f _
theorem sp_px_02_rf {w h : Int32} {f : Nat → Int32} {dx dy : Int32} (hf : sp_01 f) : sp_02 (sp_rf w h f dx dy) := fun _ _ => sp_px_02 hf _ _
-- WRITING a row: coder, states, skipped, coded
abbrev sp_E : Type := sp_W × (Nat → Nat) × Nat × Nat
def sp_e1 (cx bt : Nat) (sk : Bool) (e : sp_E) : sp_E := if sk = true then (e.1, e.2.1, e.2.2.1 + 1, e.2.2.2) else ((sp_wb e.1 e.2.1 cx bt).1, (sp_wb e.1 e.2.1 cx bt).2, e.2.2.1, e.2.2.2 + 1)
def sp_er (cx bt : Nat → Nat) (sk : Nat → Bool) : Nat → Nat → sp_E → sp_E
  | 0, _, e => e
  | n + 1, i, e => sp_er cx bt sk n (i + 1) (sp_e1 (cx i) (bt i) (sk i) e)
/-- what holds while a picture is written -/
def sp_EI (m : Nat) (e : sp_E) : Prop := sp_WI (15 * e.2.2.2) e.1 ∧ 32768 ≤ e.1.1 ∧ (∀ j, e.2.1 j < 94) ∧ e.2.2.2 ≤ m
theorem sp_e1_EI {m cx bt : Nat} {sk : Bool} {e : sp_E} (h : sp_EI m e) : sp_EI (m + 1) (sp_e1 cx bt sk e) := by
  obtain ⟨h1, h2, h3, h4⟩ := h
  unfold sp_e1
  split
  · exact ⟨h1, h2, h3, Nat.le_succ_of_le h4⟩
  · have z := sp_wb_WI h3 h1 h2 cx bt
    exact ⟨by dsimp only; rw [show 15 * (e.2.2.2 + 1) = 15 * e.2.2.2 + 15 by omega]; exact z.1, z.2.1, z.2.2, Nat.succ_le_succ h4⟩
theorem sp_er_EI {cx bt : Nat → Nat} {sk : Nat → Bool} : ∀ (n i m : Nat) (e : sp_E), sp_EI m e → sp_EI (m + n) (sp_er cx bt sk n i e) := by
  intro n
  induction n with
  | zero => intro i m e h; exact h
  | succ n ih =>
    intro i m e h
    rw [show m + (n + 1) = m + 1 + n by omega]
    exact ih (i + 1) (m + 1) _ (sp_e1_EI h)
def sp_tn (a d : Bool) : Nat := if a = d then 0 else 1
/-- WRITING rows: typical?, the row's context, what rows could be, contexts, bits, where the nine agree, the width -/
def sp_eh (ty : Bool) (rc : Nat) (ag d : Bool) (e : sp_E) : sp_E := if ty = true then ((sp_wb e.1 e.2.1 rc (sp_tn ag d)).1, (sp_wb e.1 e.2.1 rc (sp_tn ag d)).2, e.2.2.1, e.2.2.2 + 1) else e
def sp_ep (ty : Bool) (rc : Nat) (ag : Nat → Bool) (cx bt : Nat → Nat → Nat) (nn : Nat → Nat → Bool) (w : Nat) : Nat → Nat → sp_E → Nat → Bool → sp_E × Nat
  | 0, _, e, tr, _ => (e, tr)
  | n + 1, y, e, tr, d => sp_ep ty rc ag cx bt nn w n (y + 1) (sp_er (cx y) (bt y) (fun i => (cond ty (ag y) d) && nn y i) w 0 (sp_eh ty rc (ag y) d e)) (cond (cond ty (ag y) d) (tr + 1) tr) (cond ty (ag y) d)
theorem sp_eh_EI {m rc : Nat} {ty ag d : Bool} {e : sp_E} (h : sp_EI m e) : sp_EI (m + 1) (sp_eh ty rc ag d e) := by
  obtain ⟨h1, h2, h3, h4⟩ := h
  unfold sp_eh
  split
  · have z := sp_wb_WI h3 h1 h2 rc (sp_tn ag d)
    exact ⟨by dsimp only; rw [show 15 * (e.2.2.2 + 1) = 15 * e.2.2.2 + 15 by omega]; exact z.1, z.2.1, z.2.2, Nat.succ_le_succ h4⟩
  · exact ⟨h1, h2, h3, Nat.le_succ_of_le h4⟩
theorem sp_ep_s {ty : Bool} {rc : Nat} {ag : Nat → Bool} {cx bt : Nat → Nat → Nat} {nn : Nat → Nat → Bool} {w n y : Nat} {e e' : sp_E} {tr tr' : Nat} {d d' : Bool} (hd : cond ty (ag y) d = d') (htr : cond d' (tr + 1) tr = tr') (he : sp_eh ty rc (ag y) d e = e') :
    sp_ep ty rc ag cx bt nn w (n + 1) y e tr d = sp_ep ty rc ag cx bt nn w n (y + 1) (sp_er (cx y) (bt y) (fun i => d' && nn y i) w 0 e') tr' d' := by
  subst hd htr he
  rfl
theorem sp_EI_le {m m' : Nat} {e : sp_E} (h : sp_EI m e) (hm : m ≤ m') : sp_EI m' e := ⟨h.1, h.2.1, h.2.2.1, Nat.le_trans h.2.2.2 hm⟩
theorem sp_z_0 {b : Bool} : sp_z b = 0 ↔ b = false := by cases b <;> decide
theorem sp_z_1 {b : Bool} (h : ¬ sp_z b = 0) : b = true := by
  cases b with
  | true => rfl
  | false => exact absurd rfl h
theorem sp_z_inj {a b : Bool} : sp_z a = sp_z b ↔ a = b := by cases a <;> cases b <;> decide
theorem sp_z_ne1 {a : Bool} (h : ¬ sp_z a = sp_z true) : a = false := by
  cases a with
  | false => rfl
  | true => exact absurd rfl h
theorem sp_z_ne0 {a : Bool} (h : ¬ sp_z a = sp_z false) : a = true := by
  cases a with
  | true => rfl
  | false => exact absurd rfl h
-- READING a row: coder, states, what is read, skipped, coded
abbrev sp_F : Type := sp_R × (Nat → Nat) × (Nat → Int32) × Nat × Nat
def sp_f1 (k : Nat) (f : Nat → Int32) (cx : (Nat → Int32) → Nat) (sk : Bool) (nv : Int32) (pt : (Nat → Int32) → Int32 → (Nat → Int32)) (e : sp_F) : sp_F :=
  if sk = true then (e.1, e.2.1, pt e.2.2.1 nv, e.2.2.2.1 + 1, e.2.2.2.2)
  else ((sp_rb k f e.1 e.2.1 (cx e.2.2.1)).2.1, (sp_rb k f e.1 e.2.1 (cx e.2.2.1)).2.2, pt e.2.2.1 (nI (sp_rb k f e.1 e.2.1 (cx e.2.2.1)).1), e.2.2.2.1, e.2.2.2.2 + 1)
def sp_fr (k : Nat) (f : Nat → Int32) (cx : Nat → (Nat → Int32) → Nat) (sk : Nat → Bool) (nv : Nat → Int32) (pt : Nat → (Nat → Int32) → Int32 → (Nat → Int32)) : Nat → Nat → sp_F → sp_F
  | 0, _, e => e
  | n + 1, i, e => sp_fr k f cx sk nv pt n (i + 1) (sp_f1 k f (cx i) (sk i) (nv i) (pt i) e)
/-- what holds while a picture is read -/
def sp_FI (k : Nat) (e : sp_F) : Prop := sp_RI k e.1 ∧ (∀ j, e.2.1 j < 94) ∧ sp_01 e.2.2.1
theorem sp_pt_01 {sd w h : Int32} {f : Nat → Int32} {x y b : Int32} (hf : sp_01 f) (hb : b = 0 ∨ b = 1) : sp_01 (sp_pt sd w h f x y b) := by
  unfold sp_pt
  split
  · exact hf
  · exact sp_01_up hf hb
theorem sp_nI01 {n : Nat} (h : n < 2) : nI n = 0 ∨ nI n = 1 := by
  rcases (show n = 0 ∨ n = 1 by omega) with rfl | rfl
  · exact Or.inl rfl
  · exact Or.inr rfl
theorem sp_f1_FI {k : Nat} {f : Nat → Int32} {cx : (Nat → Int32) → Nat} {sk : Bool} {nv : Int32} {pt : (Nat → Int32) → Int32 → (Nat → Int32)} {e : sp_F} (hnv : sk = true → nv = 0 ∨ nv = 1) (hpt : ∀ g b, sp_01 g → (b = 0 ∨ b = 1) → sp_01 (pt g b)) (h : sp_FI k e) : sp_FI k (sp_f1 k f cx sk nv pt e) := by
  obtain ⟨h1, h2, h3⟩ := h
  unfold sp_f1
  split
  · rename_i hs
    exact ⟨h1, h2, hpt _ _ h3 (hnv hs)⟩
  · have z := sp_rb_in (f := f) h2 h1 (cx e.2.2.1)
    exact ⟨z.2.1, z.2.2, hpt _ _ h3 (sp_nI01 z.1)⟩
theorem sp_fr_FI {k : Nat} {f : Nat → Int32} {cx : Nat → (Nat → Int32) → Nat} {sk : Nat → Bool} {nv : Nat → Int32} {pt : Nat → (Nat → Int32) → Int32 → (Nat → Int32)} (hnv : ∀ i, sk i = true → nv i = 0 ∨ nv i = 1) (hpt : ∀ i g b, sp_01 g → (b = 0 ∨ b = 1) → sp_01 (pt i g b)) : ∀ (n i : Nat) (e : sp_F), sp_FI k e → sp_FI k (sp_fr k f cx sk nv pt n i e) := by
  intro n
  induction n with
  | zero => intro i e h; exact h
  | succ n ih =>
    intro i e h
    exact ih (i + 1) _ (sp_f1_FI (hnv i) (hpt i) h)
theorem sp_nine_sk {rf : Int32 → Int32 → Int32} (hr : sp_02 rf) {d : Bool} {x y : Int32} (h : (d && decide (¬ sp_nine rf x y = -1)) = true) : sp_nine rf x y = 0 ∨ sp_nine rf x y = 1 := by
  rw [Bool.and_eq_true] at h
  exact (sp_nine_in hr x y).resolve_left (of_decide_eq_true h.2)
/-- READING rows -/
def sp_fd (ty : Bool) (z : Nat) (d : Bool) : Bool := if ty = true then (if z = 1 then !d else d) else d
def sp_fh (k : Nat) (f : Nat → Int32) (ty : Bool) (rc : Nat) (e : sp_F) : sp_F := if ty = true then ((sp_rb k f e.1 e.2.1 rc).2.1, (sp_rb k f e.1 e.2.1 rc).2.2, e.2.2.1, e.2.2.2.1, e.2.2.2.2 + 1) else e
def sp_fp (k : Nat) (f : Nat → Int32) (ty : Bool) (rc : Nat) (cx : Nat → Nat → (Nat → Int32) → Nat) (nn : Nat → Nat → Bool) (nv : Nat → Nat → Int32) (pt : Nat → Nat → (Nat → Int32) → Int32 → (Nat → Int32)) (w : Nat) : Nat → Nat → sp_F → Nat → Bool → sp_F × Nat
  | 0, _, e, tr, _ => (e, tr)
  | n + 1, y, e, tr, d => sp_fp k f ty rc cx nn nv pt w n (y + 1) (sp_fr k f (cx y) (fun i => (sp_fd ty (sp_rb k f e.1 e.2.1 rc).1 d) && nn y i) (nv y) (pt y) w 0 (sp_fh k f ty rc e)) (cond (sp_fd ty (sp_rb k f e.1 e.2.1 rc).1 d) (tr + 1) tr) (sp_fd ty (sp_rb k f e.1 e.2.1 rc).1 d)
theorem sp_fp_s {k : Nat} {f : Nat → Int32} {ty : Bool} {rc : Nat} {cx : Nat → Nat → (Nat → Int32) → Nat} {nn : Nat → Nat → Bool} {nv : Nat → Nat → Int32} {pt : Nat → Nat → (Nat → Int32) → Int32 → (Nat → Int32)} {w n y : Nat} {e e' : sp_F} {tr tr' : Nat} {d d' : Bool} (hd : sp_fd ty (sp_rb k f e.1 e.2.1 rc).1 d = d') (htr : cond d' (tr + 1) tr = tr') (he : sp_fh k f ty rc e = e') :
    sp_fp k f ty rc cx nn nv pt w (n + 1) y e tr d = sp_fp k f ty rc cx nn nv pt w n (y + 1) (sp_fr k f (cx y) (fun i => d' && nn y i) (nv y) (pt y) w 0 e') tr' d' := by
  subst hd htr he
  rfl
theorem sp_fh_FI {k : Nat} {f : Nat → Int32} {ty : Bool} {rc : Nat} {e : sp_F} (h : sp_FI k e) : sp_FI k (sp_fh k f ty rc e) := by
  obtain ⟨h1, h2, h3⟩ := h
  unfold sp_fh
  split
  · have z := sp_rb_in (f := f) h2 h1 rc
    exact ⟨z.2.1, z.2.2, h3⟩
  · exact ⟨h1, h2, h3⟩
end SPQ
