/-! PURE: the table, the states, the writing side and the reading side of the coder, in numbers -/
section SPC
def sp_tab : List Nat := [22017, 1, 1, 1, 13313, 2, 6, 0, 6145, 3, 9, 0, 2753, 4, 12, 0, 1313, 5, 29, 0, 545, 38, 33, 0, 22017, 7, 6, 1, 21505, 8, 14, 0, 18433, 9, 14, 0, 14337, 10, 14, 0, 12289, 11, 17, 0, 9217, 12, 18, 0, 7169, 13, 20, 0, 5633, 29, 21, 0, 22017, 15, 14, 1, 21505, 16, 14, 0, 20737, 17, 15, 0, 18433, 18, 16, 0, 14337, 19, 17, 0, 13313, 20, 18, 0, 12289, 21, 19, 0, 10241, 22, 19, 0, 9217, 23, 20, 0, 8705, 24, 21, 0, 7169, 25, 22, 0, 6145, 26, 23, 0, 5633, 27, 24, 0, 5121, 28, 25, 0, 4609, 29, 26, 0, 4353, 30, 27, 0, 2753, 31, 28, 0, 2497, 32, 29, 0, 2209, 33, 30, 0, 1313, 34, 31, 0, 1089, 35, 32, 0, 673, 36, 33, 0, 545, 37, 34, 0, 321, 38, 35, 0, 273, 39, 36, 0, 133, 40, 37, 0, 73, 41, 38, 0, 37, 42, 39, 0, 21, 43, 40, 0, 9, 44, 41, 0, 5, 45, 42, 0, 1, 45, 43, 0, 22017, 46, 46, 0]
def sp_t (k : Nat) : Nat := sp_tab.getD k 0
theorem sp_t_row : ∀ s, s < 47 → 1 ≤ sp_t (4 * s) ∧ sp_t (4 * s) ≤ 22017 ∧ sp_t (4 * s + 1) < 47 ∧ sp_t (4 * s + 2) < 47 ∧ sp_t (4 * s + 3) < 2 := by decide +kernel
/-- the state that follows: twice the place in the table, and the likely bit -/
def sp_nx (v : Nat) (lk : Bool) : Nat := if lk = true then 2 * sp_t (4 * (v / 2) + 1) + v % 2 else 2 * sp_t (4 * (v / 2) + 2) + (if sp_t (4 * (v / 2) + 3) = 1 then 1 - v % 2 else v % 2)
theorem sp_nx_lt : ∀ v, v < 94 → ∀ b : Bool, sp_nx v b < 94 := by decide +kernel
def sp_up (f : Nat → Nat) (k v : Nat) : Nat → Nat := fun j => if j = k then v else f j
theorem sp_up_nI (S : Nat → Nat) (k v : Nat) : upd (fun j => nI (S j)) k (nI v) = fun j => nI (sp_up S k v j) := by
  funext j
  unfold upd sp_up
  split <;> rfl
theorem sp_up_lt {S : Nat → Nat} {k v : Nat} (h : ∀ j, S j < 94) (hv : v < 94) : ∀ j, sp_up S k v j < 94 := by
  intro j
  unfold sp_up
  split
  · exact hv
  · exact h j
theorem sp_nx_t (v : Nat) : 2 * nI (sp_t (4 * (v / 2) + 1)) + nI (v % 2) = nI (sp_nx v true) := by
  rw [show (2 : Int32) = nI 2 from rfl, pk_mul, nI_add]
  rfl
theorem sp_nx_f : ∀ {v : Nat}, v < 94 → 2 * nI (sp_t (4 * (v / 2) + 2)) + (nI (v % 2) ^^^ nI (sp_t (4 * (v / 2) + 3))) = nI (sp_nx v false) := by
  have h : ∀ v, v < 94 → 2 * nI (sp_t (4 * (v / 2) + 2)) + (nI (v % 2) ^^^ nI (sp_t (4 * (v / 2) + 3))) = nI (sp_nx v false) := by decide +kernel
  exact fun {v} hv => h v hv
def sp_vo (k : Nat) (f : Nat → Int32) (i o : Int32) : Int32 := if i < 0 ∨ nI k ≤ i then o else f i.toNatClampNeg
theorem sp_vo_in {k : Nat} {f : Nat → Int32} {i o : Int32} (h1 : ¬ i < 0) (h2 : ¬ nI k ≤ i) : sp_vo k f i o = f i.toNatClampNeg := if_neg (by rintro (q | q) <;> contradiction)
theorem sp_vo_out {k : Nat} {f : Nat → Int32} {i o : Int32} (h : i < 0 ∨ nI k ≤ i) : sp_vo k f i o = o := if_pos h
theorem sp_vo_ix {k : Nat} {i : Int32} (hk : k ≤ 4096) (h1 : ¬ i < 0) (h2 : ¬ nI k ≤ i) : vp_in i 4096 := by
  obtain ⟨j, hj, rfl⟩ := nI_of h1
  rw [nI_leI (by omega) hj] at h2
  exact vp_in_nI (by omega) (by decide)
/-- the share of the state of context n -/
def sp_q (S : Nat → Nat) (n : Nat) : Nat := sp_t (4 * (S n / 2))
theorem sp_q_in {S : Nat → Nat} (h : ∀ j, S j < 94) (n : Nat) : 1 ≤ sp_q S n ∧ sp_q S n ≤ 22017 := by
  have h1 := h n
  have h2 := sp_t_row (S n / 2) (by omega)
  exact ⟨h2.1, h2.2.1⟩
-- WRITING: a, c, t, number of bytes, bytes
abbrev sp_W : Type := Nat × Nat × Nat × Nat × (Nat → Int32)
def sp_last (k : Nat) (f : Nat → Int32) : Int32 := if k = 0 then 0 else f (k - 1)
theorem sp_vo_last {k : Nat} {f : Nat → Int32} (hk : k ≤ 4096) : sp_vo k f (nI k - 1) 0 = sp_last k f := by
  unfold sp_last
  split
  · rename_i h
    subst h
    exact sp_vo_out (Or.inl (by decide))
  · rename_i h
    obtain ⟨j, rfl⟩ : ∃ j, k = j + 1 := ⟨k - 1, by omega⟩
    rw [nI_pred, sp_vo_in (nI_pos (by omega)) (nI_ge (by omega) (by omega)), nI_clamp (by omega)]
    rfl
def sp_bo (c k : Nat) (f : Nat → Int32) : Nat × Nat × Nat × (Nat → Int32) :=
  if sp_last k f = 255 then (c % 1048576, 7, k + 1, upd f k (nI (c / 1048576)))
  else if c < 134217728 then (c % 524288, 8, k + 1, upd f k (nI (c / 524288)))
  else if f (k - 1) + 1 = 255 then ((c - 134217728) % 1048576, 7, k + 1, upd (upd f (k - 1) (f (k - 1) + 1)) k (nI ((c - 134217728) / 1048576)))
  else ((c - 134217728) % 524288, 8, k + 1, upd (upd f (k - 1) (f (k - 1) + 1)) k (nI ((c - 134217728) / 524288)))
theorem sp_bo_in (c k : Nat) (f : Nat → Int32) : (((sp_bo c k f).1 < 1048576 ∧ (sp_bo c k f).2.1 = 7) ∨ ((sp_bo c k f).1 < 524288 ∧ (sp_bo c k f).2.1 = 8)) ∧ (sp_bo c k f).2.2.1 = k + 1 := by
  unfold sp_bo
  split
  · exact ⟨Or.inl ⟨Nat.mod_lt _ (by decide), rfl⟩, rfl⟩
  · split
    · exact ⟨Or.inr ⟨Nat.mod_lt _ (by decide), rfl⟩, rfl⟩
    · split
      · exact ⟨Or.inl ⟨Nat.mod_lt _ (by decide), rfl⟩, rfl⟩
      · exact ⟨Or.inr ⟨Nat.mod_lt _ (by decide), rfl⟩, rfl⟩
theorem sp_bo_a {c k : Nat} {f : Nat → Int32} (h : sp_last k f = 255) : sp_bo c k f = (c % 1048576, 7, k + 1, upd f k (nI (c / 1048576))) := if_pos h
theorem sp_bo_b {c k : Nat} {f : Nat → Int32} (h : ¬ sp_last k f = 255) (hc : c < 134217728) : sp_bo c k f = (c % 524288, 8, k + 1, upd f k (nI (c / 524288))) := (if_neg h).trans (if_pos hc)
theorem sp_last_up {k : Nat} {f : Nat → Int32} (hk : 1 ≤ k) : sp_last k (upd f (k - 1) (f (k - 1) + 1)) = f (k - 1) + 1 := by
  unfold sp_last
  rw [if_neg (by omega), pk_us]
theorem sp_bo_c {c k : Nat} {f : Nat → Int32} (hk : 1 ≤ k) (h : ¬ sp_last k f = 255) (hc : ¬ c < 134217728) (h2 : sp_last k (upd f (k - 1) (f (k - 1) + 1)) = 255) : sp_bo c k f = ((c - 134217728) % 1048576, 7, k + 1, upd (upd f (k - 1) (f (k - 1) + 1)) k (nI ((c - 134217728) / 1048576))) := by
  rw [sp_last_up hk] at h2
  exact (if_neg h).trans ((if_neg hc).trans (if_pos h2))
theorem sp_bo_d {c k : Nat} {f : Nat → Int32} (hk : 1 ≤ k) (h : ¬ sp_last k f = 255) (hc : ¬ c < 134217728) (h2 : ¬ sp_last k (upd f (k - 1) (f (k - 1) + 1)) = 255) : sp_bo c k f = ((c - 134217728) % 524288, 8, k + 1, upd (upd f (k - 1) (f (k - 1) + 1)) k (nI ((c - 134217728) / 524288))) := by
  rw [sp_last_up hk] at h2
  exact (if_neg h).trans ((if_neg hc).trans (if_neg h2))
/-- one doubling -/
def sp_d1 (a c t k : Nat) (f : Nat → Int32) : sp_W :=
  if t = 1 then (2 * a, sp_bo (2 * c) k f) else (2 * a, 2 * c, t - 1, k, f)
def sp_rn : Nat → sp_W → sp_W
  | 0, w => w
  | n + 1, w => if 2 * w.1 < 32768 then sp_rn n (sp_d1 w.1 w.2.1 w.2.2.1 w.2.2.2.1 w.2.2.2.2) else sp_d1 w.1 w.2.1 w.2.2.1 w.2.2.2.1 w.2.2.2.2
theorem sp_rn_1 {m a c t k : Nat} {f : Nat → Int32} (ht : t = 1) (h : 2 * a < 32768) : sp_rn (m + 1) (a, c, t, k, f) = sp_rn m (2 * a, (sp_bo (2 * c) k f).1, (sp_bo (2 * c) k f).2.1, (sp_bo (2 * c) k f).2.2.1, (sp_bo (2 * c) k f).2.2.2) := by
  unfold sp_rn
  dsimp only
  rw [if_pos h, sp_d1, if_pos ht]
  cases m <;> rfl
theorem sp_rn_2 {m a c t k : Nat} {f : Nat → Int32} (ht : ¬ t = 1) (h : 2 * a < 32768) : sp_rn (m + 1) (a, c, t, k, f) = sp_rn m (2 * a, 2 * c, t - 1, k, f) := by
  rw [sp_rn]
  dsimp only
  rw [if_pos h, sp_d1, if_neg ht]
theorem sp_rn_3 {m a c t k : Nat} {f : Nat → Int32} (ht : t = 1) (h : ¬ 2 * a < 32768) : sp_rn (m + 1) (a, c, t, k, f) = (2 * a, (sp_bo (2 * c) k f).1, (sp_bo (2 * c) k f).2.1, (sp_bo (2 * c) k f).2.2.1, (sp_bo (2 * c) k f).2.2.2) := by
  rw [sp_rn]
  dsimp only
  rw [if_neg h, sp_d1, if_pos ht]
theorem sp_rn_4 {m a c t k : Nat} {f : Nat → Int32} (ht : ¬ t = 1) (h : ¬ 2 * a < 32768) : sp_rn (m + 1) (a, c, t, k, f) = (2 * a, 2 * c, t - 1, k, f) := by
  rw [sp_rn]
  dsimp only
  rw [if_neg h, sp_d1, if_neg ht]
/-- what holds of a writing coder after at most K doublings -/
def sp_WI (K : Nat) (w : sp_W) : Prop := 1 ≤ w.1 ∧ w.1 < 65536 ∧ 1 ≤ w.2.2.1 ∧ w.2.2.1 ≤ 12 ∧ (w.2.1 + w.1) * 2 ^ w.2.2.1 ≤ 150994944 ∧ (w.2.2.2.1 = 0 → (w.2.1 + w.1) * 2 ^ w.2.2.1 ≤ 134217728) ∧ 7 * w.2.2.2.1 + 12 ≤ K + w.2.2.1
theorem sp_d1_fst (a c t k : Nat) (f : Nat → Int32) : (sp_d1 a c t k f).1 = 2 * a := by
  unfold sp_d1
  split <;> rfl
theorem sp_d1_WI {K a c t k : Nat} {f : Nat → Int32} (h : sp_WI K (a, c, t, k, f)) (ha : a < 32768) : sp_WI (K + 1) (sp_d1 a c t k f) := by
  obtain ⟨h1, h2, h3, h4, h5, h6, h7⟩ := h
  dsimp only at h1 h2 h3 h4 h5 h6 h7
  unfold sp_d1
  split
  · rename_i ht
    subst ht
    obtain ⟨hb, hk⟩ := sp_bo_in (2 * c) k f
    generalize sp_bo (2 * c) k f = z at hb hk ⊢
    obtain ⟨c', t', k', f'⟩ := z
    dsimp only at hb hk ⊢
    subst hk
    rcases hb with ⟨hc, rfl⟩ | ⟨hc, rfl⟩
    · refine ⟨by dsimp only; omega, by dsimp only; omega, by dsimp only; omega, by dsimp only; omega, ?_, fun h => ?_, ?_⟩
      · dsimp only; omega
      · dsimp only at h; omega
      · dsimp only; omega
    · refine ⟨by dsimp only; omega, by dsimp only; omega, by dsimp only; omega, by dsimp only; omega, ?_, fun h => ?_, ?_⟩
      · dsimp only; omega
      · dsimp only at h; omega
      · dsimp only; omega
  · rename_i ht
    obtain ⟨u, rfl⟩ : ∃ u, t = u + 1 := ⟨t - 1, by omega⟩
    have e : (2 * c + 2 * a) * 2 ^ u = (c + a) * 2 ^ (u + 1) := by
      rw [Nat.pow_succ, ← Nat.mul_add, Nat.mul_comm 2 (c + a), Nat.mul_assoc, Nat.mul_comm 2 (2 ^ u)]
    refine ⟨by dsimp only; omega, by dsimp only; omega, by dsimp only; omega, by dsimp only; omega, ?_, fun h => ?_, ?_⟩
    · dsimp only
      rw [show u + 1 - 1 = u by omega, e]
      exact h5
    · dsimp only at h ⊢
      rw [show u + 1 - 1 = u by omega, e]
      exact h6 h
    · dsimp only; omega
theorem sp_rn_WI : ∀ (n K : Nat) (w : sp_W), sp_WI K w → w.1 < 32768 → 32768 ≤ w.1 * 2 ^ n → sp_WI (K + n) (sp_rn n w) ∧ 32768 ≤ (sp_rn n w).1 := by
  intro n
  induction n with
  | zero =>
    intro K w _ h2 h3
    exact absurd h3 (by simp; omega)
  | succ n ih =>
    intro K w h1 h2 h3
    obtain ⟨a, c, t, k, f⟩ := w
    dsimp only at h2 h3
    have hw := sp_d1_WI h1 h2
    have hf := sp_d1_fst a c t k f
    unfold sp_rn
    dsimp only
    split
    · rename_i hl
      have q := ih (K + 1) (sp_d1 a c t k f) hw (by rw [hf]; exact hl) (by rw [hf]; rw [Nat.pow_succ] at h3; rw [Nat.mul_comm 2 a, Nat.mul_assoc, Nat.mul_comm 2]; exact h3)
      rw [show K + (n + 1) = K + 1 + n by omega]
      exact q
    · rename_i hl
      refine ⟨?_, by rw [hf]; omega⟩
      obtain ⟨g1, g2, g3, g4, g5, g6, g7⟩ := hw
      exact ⟨g1, g2, g3, g4, g5, g6, by omega⟩
/-- a bit is written in context n: the coder, the states -/
def sp_wb (w : sp_W) (S : Nat → Nat) (n bit : Nat) : sp_W × (Nat → Nat) :=
  if bit = S n % 2 then
    if 32768 ≤ w.1 - sp_q S n then ((w.1 - sp_q S n, w.2.1 + sp_q S n, w.2.2), S)
    else if w.1 - sp_q S n < sp_q S n then (sp_rn 15 (sp_q S n, w.2.1, w.2.2), sp_up S n (sp_nx (S n) true))
    else (sp_rn 15 (w.1 - sp_q S n, w.2.1 + sp_q S n, w.2.2), sp_up S n (sp_nx (S n) true))
  else
    if w.1 - sp_q S n < sp_q S n then (sp_rn 15 (w.1 - sp_q S n, w.2.1 + sp_q S n, w.2.2), sp_up S n (sp_nx (S n) false))
    else (sp_rn 15 (sp_q S n, w.2.1, w.2.2), sp_up S n (sp_nx (S n) false))
theorem sp_WI_lo {K a c q t k : Nat} {f : Nat → Int32} (h : sp_WI K (a, c, t, k, f)) (h1 : 1 ≤ q) (h2 : q ≤ a) : sp_WI K (q, c, t, k, f) := by
  obtain ⟨g1, g2, g3, g4, g5, g6, g7⟩ := h
  have e : (c + q) * 2 ^ t ≤ (c + a) * 2 ^ t := Nat.mul_le_mul_right _ (by omega)
  exact ⟨h1, by dsimp only at g2 ⊢; omega, g3, g4, Nat.le_trans e g5, fun h => Nat.le_trans e (g6 h), g7⟩
theorem sp_WI_hi {K a c q t k : Nat} {f : Nat → Int32} (h : sp_WI K (a, c, t, k, f)) (h2 : q < a) : sp_WI K (a - q, c + q, t, k, f) := by
  obtain ⟨g1, g2, g3, g4, g5, g6, g7⟩ := h
  dsimp only at g1 g2 g3 g4 g5 g6 g7
  have e : c + q + (a - q) = c + a := by omega
  refine ⟨by dsimp only; omega, by dsimp only; omega, g3, g4, ?_, fun h => ?_, g7⟩
  · dsimp only; rw [e]; exact g5
  · dsimp only; rw [e]; exact g6 h
theorem sp_wb_WI {K : Nat} {w : sp_W} {S : Nat → Nat} (hS : ∀ j, S j < 94) (h : sp_WI K w) (ha : 32768 ≤ w.1) (n bit : Nat) :
    sp_WI (K + 15) (sp_wb w S n bit).1 ∧ 32768 ≤ (sp_wb w S n bit).1.1 ∧ ∀ j, (sp_wb w S n bit).2 j < 94 := by
  obtain ⟨a, c, t, k, f⟩ := w
  obtain ⟨q1, q2⟩ := sp_q_in hS n
  dsimp only at ha
  have hS2 : ∀ b, ∀ j, sp_up S n (sp_nx (S n) b) j < 94 := fun b => sp_up_lt hS (sp_nx_lt _ (hS n) b)
  have hlo := sp_WI_lo (q := sp_q S n) h q1 (by omega)
  have hhi := sp_WI_hi (q := sp_q S n) h (by omega)
  have e15 : ∀ x, 1 ≤ x → 32768 ≤ x * 2 ^ 15 := fun x hx => by omega
  unfold sp_wb
  dsimp only
  split
  · split
    · rename_i hge
      refine ⟨?_, hge, hS⟩
      obtain ⟨g1, g2, g3, g4, g5, g6, g7⟩ := hhi
      exact ⟨g1, g2, g3, g4, g5, g6, by dsimp only at g7 ⊢; omega⟩
    · split
      · have z := sp_rn_WI 15 K _ hlo (by dsimp only; omega) (e15 _ q1)
        exact ⟨z.1, z.2, hS2 true⟩
      · have z := sp_rn_WI 15 K _ hhi (by dsimp only; omega) (e15 _ (by dsimp only; omega))
        exact ⟨z.1, z.2, hS2 true⟩
  · split
    · have z := sp_rn_WI 15 K _ hhi (by dsimp only; omega) (e15 _ (by dsimp only; omega))
      exact ⟨z.1, z.2, hS2 false⟩
    · have z := sp_rn_WI 15 K _ hlo (by dsimp only; omega) (e15 _ q1)
      exact ⟨z.1, z.2, hS2 false⟩
theorem sp_wb_1 {a c t k : Nat} {f : Nat → Int32} {S : Nat → Nat} {n bit : Nat} (h1 : bit = S n % 2) (h2 : 32768 ≤ a - sp_q S n) : sp_wb (a, c, t, k, f) S n bit = ((a - sp_q S n, c + sp_q S n, t, k, f), S) := (if_pos h1).trans (if_pos h2)
theorem sp_wb_2 {a c t k : Nat} {f : Nat → Int32} {S : Nat → Nat} {n bit : Nat} (h1 : bit = S n % 2) (h2 : ¬ 32768 ≤ a - sp_q S n) (h3 : a - sp_q S n < sp_q S n) : sp_wb (a, c, t, k, f) S n bit = (sp_rn 15 (sp_q S n, c, t, k, f), sp_up S n (sp_nx (S n) true)) := (if_pos h1).trans ((if_neg h2).trans (if_pos h3))
theorem sp_wb_3 {a c t k : Nat} {f : Nat → Int32} {S : Nat → Nat} {n bit : Nat} (h1 : bit = S n % 2) (h2 : ¬ 32768 ≤ a - sp_q S n) (h3 : ¬ a - sp_q S n < sp_q S n) : sp_wb (a, c, t, k, f) S n bit = (sp_rn 15 (a - sp_q S n, c + sp_q S n, t, k, f), sp_up S n (sp_nx (S n) true)) := (if_pos h1).trans ((if_neg h2).trans (if_neg h3))
theorem sp_wb_4 {a c t k : Nat} {f : Nat → Int32} {S : Nat → Nat} {n bit : Nat} (h1 : ¬ bit = S n % 2) (h3 : a - sp_q S n < sp_q S n) : sp_wb (a, c, t, k, f) S n bit = (sp_rn 15 (a - sp_q S n, c + sp_q S n, t, k, f), sp_up S n (sp_nx (S n) false)) := (if_neg h1).trans (if_pos h3)
theorem sp_wb_5 {a c t k : Nat} {f : Nat → Int32} {S : Nat → Nat} {n bit : Nat} (h1 : ¬ bit = S n % 2) (h3 : ¬ a - sp_q S n < sp_q S n) : sp_wb (a, c, t, k, f) S n bit = (sp_rn 15 (sp_q S n, c, t, k, f), sp_up S n (sp_nx (S n) false)) := (if_neg h1).trans (if_neg h3)
/-- the number of bytes stays small -/
theorem sp_WI_k {K : Nat} {w : sp_W} (h : sp_WI K w) (hK : K ≤ 28000) : w.2.2.2.1 < 4050 := by
  obtain ⟨-, -, -, g4, -, -, g7⟩ := h
  omega
theorem sp_sl : ∀ n, n < 32 → ((nI n &&& 31).toBitVec.smod 32).toNat = n := by decide +kernel
theorem sp_or {c : Nat} (hc : c < 2 ^ 31) : nI c ||| 65535 = nI (c - c % 65536 + 65535) := by
  apply Int32.toBitVec_inj.mp
  apply BitVec.eq_of_toNat_eq
  rw [Int32.toBitVec_or, BitVec.toNat_or, pk_tn (by omega), pk_tn (by omega)]
  have e : c = 2 ^ 16 * (c / 65536) + c % 65536 := by omega
  have hl : c % 65536 < 2 ^ 16 := Nat.mod_lt _ (by decide)
  have h1 : c ||| 65535 = 2 ^ 16 * (c / 65536) + 65535 := by
    rw [e]
    rw [Nat.two_pow_add_eq_or_of_lt hl]
    have h2 : c % 65536 ||| 65535 = 65535 := by
      apply Nat.eq_of_testBit_eq
      intro i
      rw [Nat.testBit_or, show (65535 : Nat) = 2 ^ 16 - 1 from rfl, Nat.testBit_two_pow_sub_one]
      by_cases hi : i < 16
      · simp [hi]
      · rw [Nat.testBit_lt_two_pow (Nat.lt_of_lt_of_le hl (Nat.pow_le_pow_right (by decide) (by omega)))]
        simp [hi]
    have e2 : (2 ^ 16 * (c / 65536) ||| c % 65536) / 65536 = c / 65536 := by
      rw [← Nat.two_pow_add_eq_or_of_lt hl, ← e]
    rw [e2, Nat.or_assoc]
    rw [h2, Nat.two_pow_add_eq_or_of_lt (by decide)]
  show c ||| 65535 = _
  rw [h1]
  omega
/-- the end of writing -/
def sp_fc (a c : Nat) : Nat := if c + a ≤ c - c % 65536 + 65535 then c - c % 65536 + 65535 - 32768 else c - c % 65536 + 65535
theorem sp_fc_lt {a c : Nat} (h : 32768 ≤ a) : sp_fc a c < c + a := by
  unfold sp_fc
  split <;> omega
def sp_f2 (w : sp_W) : Nat × Nat × Nat × (Nat → Int32) :=
  sp_bo ((sp_bo (sp_fc w.1 w.2.1 * 2 ^ w.2.2.1) w.2.2.2.1 w.2.2.2.2).1 * 2 ^ (sp_bo (sp_fc w.1 w.2.1 * 2 ^ w.2.2.1) w.2.2.2.1 w.2.2.2.2).2.1) (sp_bo (sp_fc w.1 w.2.1 * 2 ^ w.2.2.1) w.2.2.2.1 w.2.2.2.2).2.2.1 (sp_bo (sp_fc w.1 w.2.1 * 2 ^ w.2.2.1) w.2.2.2.1 w.2.2.2.2).2.2.2
def sp_fin (w : sp_W) : Nat × (Nat → Int32) :=
  if sp_last (sp_f2 w).2.2.1 (sp_f2 w).2.2.2 = 255 then ((sp_f2 w).2.2.1 + 1, upd (sp_f2 w).2.2.2 (sp_f2 w).2.2.1 172) else ((sp_f2 w).2.2.1 + 1 + 1, upd (upd (sp_f2 w).2.2.2 (sp_f2 w).2.2.1 255) ((sp_f2 w).2.2.1 + 1) 172)
theorem nI_eq0 {n : Nat} (h : n < 2 ^ 31) : nI n = 0 ↔ n = 0 := by
  rw [show (0 : Int32) = nI 0 from rfl, nI_eq h (by decide)]
-- READING: a, c, t, the byte's place
abbrev sp_R : Type := Nat × Int64 × Int32 × Nat
def sp_in (k : Nat) (f : Nat → Int32) (i : Nat) : Int32 := if i < k then f i else 255
theorem sp_vo_255 {k : Nat} {f : Nat → Int32} {b : Nat} (hb : b < 2 ^ 31) (hk : k ≤ 4096) : sp_vo k f (nI b) 255 = sp_in k f b := by
  unfold sp_in
  split
  · rw [sp_vo_in (nI_pos hb) (nI_ge (by assumption) (by omega)), nI_clamp hb]
  · exact sp_vo_out (Or.inr (nI_le (by omega) hb))
def sp_bi (k : Nat) (f : Nat → Int32) (c : Int64) (b : Nat) : Int64 × Int32 × Nat :=
  if sp_in k f b = 255 then
    if 143 < sp_in k f (b + 1) then ((c + 65280) &&& 4294967295, 8, b)
    else ((c + (sp_in k f (b + 1)).toInt64 <<< ((9 : Int32).toInt64 &&& 63)) &&& 4294967295, 7, b + 1)
  else ((c + (sp_in k f (b + 1)).toInt64 <<< ((8 : Int32).toInt64 &&& 63)) &&& 4294967295, 8, b + 1)
theorem sp_in_out {k : Nat} {f : Nat → Int32} {i : Nat} (h : k ≤ i) : sp_in k f i = 255 := by
  unfold sp_in
  rw [if_neg (by omega)]
theorem sp_bi_b {k : Nat} {f : Nat → Int32} {c : Int64} {b : Nat} (h : b ≤ k) : (sp_bi k f c b).2.2 ≤ k := by
  rcases Nat.lt_or_ge b k with hb | hb
  · unfold sp_bi
    split
    · split
      · exact h
      · exact hb
    · exact hb
  · unfold sp_bi
    rw [if_pos (sp_in_out hb), if_pos (by rw [sp_in_out (by omega)]; decide)]
    exact h
theorem sp_bi_x {k : Nat} {f : Nat → Int32} {c : Int64} {b : Nat} (h1 : sp_in k f b = 255) (h2 : ¬ sp_in k f (b + 1) ≤ 143) : sp_bi k f c b = ((c + 65280) &&& 4294967295, 8, b) := (if_pos h1).trans (if_pos (Int32.not_le.mp h2))
theorem sp_bi_y {k : Nat} {f : Nat → Int32} {c : Int64} {b : Nat} (h1 : sp_in k f b = 255) (h2 : sp_in k f (b + 1) ≤ 143) : sp_bi k f c b = ((c + (sp_in k f (b + 1)).toInt64 <<< ((9 : Int32).toInt64 &&& 63)) &&& 4294967295, 7, b + 1) := (if_pos h1).trans (if_neg (Int32.not_lt.mpr h2))
theorem sp_bi_z {k : Nat} {f : Nat → Int32} {c : Int64} {b : Nat} (h1 : ¬ sp_in k f b = 255) : sp_bi k f c b = ((c + (sp_in k f (b + 1)).toInt64 <<< ((8 : Int32).toInt64 &&& 63)) &&& 4294967295, 8, b + 1) := if_neg h1
def sp_d2 (k : Nat) (f : Nat → Int32) (a : Nat) (c : Int64) (t : Int32) (b : Nat) : sp_R :=
  if t = 0 then (2 * a, (sp_bi k f c b).1 <<< ((1 : Int32).toInt64 &&& 63) &&& 4294967295, (sp_bi k f c b).2.1 - 1, (sp_bi k f c b).2.2)
  else (2 * a, c <<< ((1 : Int32).toInt64 &&& 63) &&& 4294967295, t - 1, b)
def sp_rr (k : Nat) (f : Nat → Int32) : Nat → sp_R → sp_R
  | 0, w => w
  | n + 1, w => if 2 * w.1 < 32768 then sp_rr k f n (sp_d2 k f w.1 w.2.1 w.2.2.1 w.2.2.2) else sp_d2 k f w.1 w.2.1 w.2.2.1 w.2.2.2
theorem sp_rr_1 {k : Nat} {f : Nat → Int32} {m a : Nat} {c : Int64} {t : Int32} {b : Nat} (ht : t = 0) (h : 2 * a < 32768) : sp_rr k f (m + 1) (a, c, t, b) = sp_rr k f m (2 * a, (sp_bi k f c b).1 <<< ((1 : Int32).toInt64 &&& 63) &&& 4294967295, (sp_bi k f c b).2.1 - 1, (sp_bi k f c b).2.2) := by
  rw [sp_rr]
  dsimp only
  rw [if_pos h, sp_d2, if_pos ht]
theorem sp_rr_2 {k : Nat} {f : Nat → Int32} {m a : Nat} {c : Int64} {t : Int32} {b : Nat} (ht : ¬ t = 0) (h : 2 * a < 32768) : sp_rr k f (m + 1) (a, c, t, b) = sp_rr k f m (2 * a, c <<< ((1 : Int32).toInt64 &&& 63) &&& 4294967295, t - 1, b) := by
  rw [sp_rr]
  dsimp only
  rw [if_pos h, sp_d2, if_neg ht]
theorem sp_rr_3 {k : Nat} {f : Nat → Int32} {m a : Nat} {c : Int64} {t : Int32} {b : Nat} (ht : t = 0) (h : ¬ 2 * a < 32768) : sp_rr k f (m + 1) (a, c, t, b) = (2 * a, (sp_bi k f c b).1 <<< ((1 : Int32).toInt64 &&& 63) &&& 4294967295, (sp_bi k f c b).2.1 - 1, (sp_bi k f c b).2.2) := by
  rw [sp_rr]
  dsimp only
  rw [if_neg h, sp_d2, if_pos ht]
theorem sp_rr_4 {k : Nat} {f : Nat → Int32} {m a : Nat} {c : Int64} {t : Int32} {b : Nat} (ht : ¬ t = 0) (h : ¬ 2 * a < 32768) : sp_rr k f (m + 1) (a, c, t, b) = (2 * a, c <<< ((1 : Int32).toInt64 &&& 63) &&& 4294967295, t - 1, b) := by
  rw [sp_rr]
  dsimp only
  rw [if_neg h, sp_d2, if_neg ht]
theorem sp_d2_in {k : Nat} {f : Nat → Int32} {a : Nat} {c : Int64} {t : Int32} {b : Nat} (h : b ≤ k) : (sp_d2 k f a c t b).1 = 2 * a ∧ (sp_d2 k f a c t b).2.2.2 ≤ k := by
  unfold sp_d2
  split
  · exact ⟨rfl, sp_bi_b h⟩
  · exact ⟨rfl, h⟩
theorem sp_rr_in {k : Nat} {f : Nat → Int32} : ∀ (n : Nat) (w : sp_R), w.1 < 32768 → 32768 ≤ w.1 * 2 ^ n → w.2.2.2 ≤ k → 32768 ≤ (sp_rr k f n w).1 ∧ (sp_rr k f n w).1 < 65536 ∧ (sp_rr k f n w).2.2.2 ≤ k := by
  intro n
  induction n with
  | zero =>
    intro w h2 h3
    exact absurd h3 (by simp; omega)
  | succ n ih =>
    intro w h2 h3 hb
    obtain ⟨a, c, t, b⟩ := w
    dsimp only at h2 h3 hb
    obtain ⟨hf, hk⟩ := sp_d2_in (f := f) (a := a) (c := c) (t := t) hb
    unfold sp_rr
    dsimp only
    split
    · rename_i hl
      exact ih (sp_d2 k f a c t b) (by rw [hf]; exact hl) (by rw [hf]; rw [Nat.pow_succ] at h3; rw [Nat.mul_comm 2 a, Nat.mul_assoc, Nat.mul_comm 2]; exact h3) hk
    · rename_i hl
      rw [hf]
      exact ⟨by omega, by omega, hk⟩
/-- a bit is read in context n: the bit, the coder, the states -/
def sp_rb (k : Nat) (f : Nat → Int32) (w : sp_R) (S : Nat → Nat) (n : Nat) : Nat × sp_R × (Nat → Nat) :=
  if w.2.1 < lN (sp_q S n * 65536) then
    if w.1 - sp_q S n < sp_q S n then (S n % 2, sp_rr k f 15 (sp_q S n, w.2), sp_up S n (sp_nx (S n) true))
    else (1 - S n % 2, sp_rr k f 15 (sp_q S n, w.2), sp_up S n (sp_nx (S n) false))
  else if 32768 ≤ w.1 - sp_q S n then (S n % 2, (w.1 - sp_q S n, w.2.1 - lN (sp_q S n * 65536), w.2.2), S)
  else if w.1 - sp_q S n < sp_q S n then (1 - S n % 2, sp_rr k f 15 (w.1 - sp_q S n, w.2.1 - lN (sp_q S n * 65536), w.2.2), sp_up S n (sp_nx (S n) false))
  else (S n % 2, sp_rr k f 15 (w.1 - sp_q S n, w.2.1 - lN (sp_q S n * 65536), w.2.2), sp_up S n (sp_nx (S n) true))
theorem sp_rb_1 {k : Nat} {f : Nat → Int32} {a : Nat} {c : Int64} {t : Int32} {b : Nat} {S : Nat → Nat} {n : Nat} (h1 : c < lN (sp_q S n * 65536)) (h2 : a - sp_q S n < sp_q S n) : sp_rb k f (a, c, t, b) S n = (S n % 2, sp_rr k f 15 (sp_q S n, c, t, b), sp_up S n (sp_nx (S n) true)) := (if_pos h1).trans (if_pos h2)
theorem sp_rb_2 {k : Nat} {f : Nat → Int32} {a : Nat} {c : Int64} {t : Int32} {b : Nat} {S : Nat → Nat} {n : Nat} (h1 : c < lN (sp_q S n * 65536)) (h2 : ¬ a - sp_q S n < sp_q S n) : sp_rb k f (a, c, t, b) S n = (1 - S n % 2, sp_rr k f 15 (sp_q S n, c, t, b), sp_up S n (sp_nx (S n) false)) := (if_pos h1).trans (if_neg h2)
theorem sp_rb_3 {k : Nat} {f : Nat → Int32} {a : Nat} {c : Int64} {t : Int32} {b : Nat} {S : Nat → Nat} {n : Nat} (h1 : ¬ c < lN (sp_q S n * 65536)) (h2 : 32768 ≤ a - sp_q S n) : sp_rb k f (a, c, t, b) S n = (S n % 2, (a - sp_q S n, c - lN (sp_q S n * 65536), t, b), S) := (if_neg h1).trans (if_pos h2)
theorem sp_rb_4 {k : Nat} {f : Nat → Int32} {a : Nat} {c : Int64} {t : Int32} {b : Nat} {S : Nat → Nat} {n : Nat} (h1 : ¬ c < lN (sp_q S n * 65536)) (h2 : ¬ 32768 ≤ a - sp_q S n) (h3 : a - sp_q S n < sp_q S n) : sp_rb k f (a, c, t, b) S n = (1 - S n % 2, sp_rr k f 15 (a - sp_q S n, c - lN (sp_q S n * 65536), t, b), sp_up S n (sp_nx (S n) false)) := (if_neg h1).trans ((if_neg h2).trans (if_pos h3))
theorem sp_rb_5 {k : Nat} {f : Nat → Int32} {a : Nat} {c : Int64} {t : Int32} {b : Nat} {S : Nat → Nat} {n : Nat} (h1 : ¬ c < lN (sp_q S n * 65536)) (h2 : ¬ 32768 ≤ a - sp_q S n) (h3 : ¬ a - sp_q S n < sp_q S n) : sp_rb k f (a, c, t, b) S n = (S n % 2, sp_rr k f 15 (a - sp_q S n, c - lN (sp_q S n * 65536), t, b), sp_up S n (sp_nx (S n) true)) := (if_neg h1).trans ((if_neg h2).trans (if_neg h3))
theorem sp_l16 {q : Nat} (h : q < 65536) : (nI q).toInt64 <<< ((16 : Int32).toInt64 &&& 63) = lN (q * 65536) := by
  rw [nI_l (by omega)]
  apply Int64.toBitVec_inj.mp
  have e : ((16 : Int32).toInt64 &&& 63) = 16 := by decide +kernel
  rw [e]
  apply BitVec.eq_of_toNat_eq
  rw [Int64.toBitVec_shiftLeft]
  rw [show ((16 : Int64).toBitVec.smod 64) = 16#64 from by decide +kernel]
  rw [show (lN q).toBitVec = BitVec.ofNat 64 q from rfl, show (lN (q * 65536)).toBitVec = BitVec.ofNat 64 (q * 65536) from rfl]
  rw [BitVec.shiftLeft_eq', BitVec.toNat_shiftLeft, BitVec.toNat_ofNat, BitVec.toNat_ofNat, show (16 % 2 ^ 64 : Nat) = 16 from rfl, BitVec.toNat_ofNat, Nat.shiftLeft_eq]
  omega
/-- what holds of a reading coder -/
def sp_RI (k : Nat) (w : sp_R) : Prop := 32768 ≤ w.1 ∧ w.1 < 65536 ∧ w.2.2.2 ≤ k
theorem sp_rb_in {k : Nat} {f : Nat → Int32} {w : sp_R} {S : Nat → Nat} (hS : ∀ j, S j < 94) (h : sp_RI k w) (n : Nat) :
    (sp_rb k f w S n).1 < 2 ∧ sp_RI k (sp_rb k f w S n).2.1 ∧ ∀ j, (sp_rb k f w S n).2.2 j < 94 := by
  obtain ⟨a, c, t, b⟩ := w
  obtain ⟨h1, h2, h3⟩ := h
  obtain ⟨q1, q2⟩ := sp_q_in hS n
  dsimp only at h1 h2 h3
  have hS2 : ∀ b, ∀ j, sp_up S n (sp_nx (S n) b) j < 94 := fun b => sp_up_lt hS (sp_nx_lt _ (hS n) b)
  have e15 : ∀ x, 1 ≤ x → 32768 ≤ x * 2 ^ 15 := fun x hx => by omega
  unfold sp_rb
  dsimp only
  split
  · split
    · exact ⟨by dsimp only; omega, sp_rr_in 15 _ (by dsimp only; omega) (e15 _ q1) h3, hS2 true⟩
    · exact ⟨by dsimp only; omega, sp_rr_in 15 _ (by dsimp only; omega) (e15 _ q1) h3, hS2 false⟩
  · split
    · rename_i hge
      exact ⟨by dsimp only; omega, ⟨hge, by dsimp only; omega, h3⟩, hS⟩
    · split
      · exact ⟨by dsimp only; omega, sp_rr_in 15 _ (by dsimp only; omega) (e15 _ (by dsimp only; omega)) h3, hS2 false⟩
      · exact ⟨by dsimp only; omega, sp_rr_in 15 _ (by dsimp only; omega) (e15 _ (by dsimp only; omega)) h3, hS2 true⟩
end SPC
