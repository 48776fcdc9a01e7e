/-! PURE: the reference's words -/
section SPM
theorem sp_no_1 {w h x y : Int32} (c : 1 - sp_ho w h x y = 0) : ¬ sp_ho w h x y = 0 := by
  intro q
  rw [q] at c
  exact absurd c (by decide)
theorem sp_no_0 {w h x y : Int32} (c : ¬ 1 - sp_ho w h x y = 0) : sp_ho w h x y = 0 := by
  rcases sp_ho_01 w h x y with q | q
  · exact q
  · rw [q] at c
    exact absurd (by decide) c
theorem sp_px_ho {sd w h : Int32} {f : Nat → Int32} {x y : Int32} (c : sp_ho w h x y = 0) : sp_px sd w h f x y = 0 := by
  unfold sp_ho at c
  unfold sp_px
  split
  · rfl
  · rename_i q
    rw [if_neg q] at c
    exact absurd c (by decide)
theorem sp_px_ho1 {sd w h : Int32} {f : Nat → Int32} {x y : Int32} (c : ¬ sp_ho w h x y = 0) : sp_px sd w h f x y = f (y * sd + x).toNatClampNeg := if_neg (sp_ho_no c)
def sp_sum9 (rf : Int32 → Int32 → Int32) (x y : Int32) : Int32 :=
  0 + rf (x + 0 - 1) (y + 0 - 1) + rf (x + 1 - 1) (y + 0 - 1) + rf (x + 2 - 1) (y + 0 - 1) + rf (x + 0 - 1) (y + 1 - 1) + rf (x + 1 - 1) (y + 1 - 1) + rf (x + 2 - 1) (y + 1 - 1) + rf (x + 0 - 1) (y + 2 - 1) + rf (x + 1 - 1) (y + 2 - 1) + rf (x + 2 - 1) (y + 2 - 1)
theorem sp_q0 (x : Int32) : x + 0 - 1 = x + -1 := by rw [Int32.sub_eq_add_neg, Int32.add_assoc]; rfl
theorem sp_q1 (x : Int32) : x + 1 - 1 = x + 0 := by rw [Int32.sub_eq_add_neg, Int32.add_assoc]; rfl
theorem sp_q2 (x : Int32) : x + 2 - 1 = x + 1 := by rw [Int32.sub_eq_add_neg, Int32.add_assoc]; rfl
theorem sp_bool {v : Int32} (h : v = 0 ∨ v = 1) : ∃ b : Bool, v = cond b 1 0 := by
  rcases h with rfl | rfl
  · exact ⟨false, rfl⟩
  · exact ⟨true, rfl⟩
theorem sp_t9 : ∀ a b c d e f g h i : Bool, (if (cond a (1 : Int32) 0 = cond e 1 0 ∧ cond b (1 : Int32) 0 = cond e 1 0 ∧ cond c (1 : Int32) 0 = cond e 1 0 ∧ cond d (1 : Int32) 0 = cond e 1 0 ∧ cond e (1 : Int32) 0 = cond e 1 0 ∧ cond f (1 : Int32) 0 = cond e 1 0 ∧ cond g (1 : Int32) 0 = cond e 1 0 ∧ cond h (1 : Int32) 0 = cond e 1 0 ∧ cond i (1 : Int32) 0 = cond e 1 0) then cond e (1 : Int32) 0 else -1)
    = if 0 + cond a (1 : Int32) 0 + cond b 1 0 + cond c 1 0 + cond d 1 0 + cond e 1 0 + cond f 1 0 + cond g 1 0 + cond h 1 0 + cond i 1 0 = 0 then 0 else if 0 + cond a (1 : Int32) 0 + cond b 1 0 + cond c 1 0 + cond d 1 0 + cond e 1 0 + cond f 1 0 + cond g 1 0 + cond h 1 0 + cond i 1 0 = 9 then 1 else -1 := by decide +kernel
theorem sp_nine_sum {rf : Int32 → Int32 → Int32} (hr : sp_02 rf) (x y : Int32) : sp_nine rf x y = if sp_sum9 rf x y = 0 then 0 else if sp_sum9 rf x y = 9 then 1 else -1 := by
  unfold sp_nine sp_sum9
  rw [sp_q0 x, sp_q1 x, sp_q2 x, sp_q0 y, sp_q1 y, sp_q2 y]
  have e : rf x y = rf (x + 0) (y + 0) := by rw [Int32.add_zero, Int32.add_zero]
  rw [e]
  obtain ⟨b1, h1⟩ := sp_bool (hr (x + -1) (y + -1))
  obtain ⟨b2, h2⟩ := sp_bool (hr (x + 0) (y + -1))
  obtain ⟨b3, h3⟩ := sp_bool (hr (x + 1) (y + -1))
  obtain ⟨b4, h4⟩ := sp_bool (hr (x + -1) (y + 0))
  obtain ⟨b5, h5⟩ := sp_bool (hr (x + 0) (y + 0))
  obtain ⟨b6, h6⟩ := sp_bool (hr (x + 1) (y + 0))
  obtain ⟨b7, h7⟩ := sp_bool (hr (x + -1) (y + 1))
  obtain ⟨b8, h8⟩ := sp_bool (hr (x + 0) (y + 1))
  obtain ⟨b9, h9⟩ := sp_bool (hr (x + 1) (y + 1))
  rw [h1, h2, h3, h4, h5, h6, h7, h8, h9]
  exact sp_t9 b1 b2 b3 b4 b5 b6 b7 b8 b9
theorem sp_nine_0 {rf : Int32 → Int32 → Int32} (hr : sp_02 rf) {x y : Int32} (c : sp_sum9 rf x y = 0) : 0 = sp_nine rf x y := by rw [sp_nine_sum hr, if_pos c]
theorem sp_nine_1 {rf : Int32 → Int32 → Int32} (hr : sp_02 rf) {x y : Int32} (c : sp_sum9 rf x y = 9) : 1 = sp_nine rf x y := by
  rw [sp_nine_sum hr, if_neg (by rw [c]; decide), if_pos c]
theorem sp_nine_2 {rf : Int32 → Int32 → Int32} (hr : sp_02 rf) {x y : Int32} (c : ¬ sp_sum9 rf x y = 0) (c2 : ¬ sp_sum9 rf x y = 9) : -1 = sp_nine rf x y := by
  rw [sp_nine_sum hr, if_neg c, if_neg c2]
/-- the states of writing, then those of reading, in one row -/
def sp_cat (S R : Nat → Nat) : Nat → Int32 := fun j => if j < 8192 then nI (S j) else nI (R (j - 8192))
theorem sp_cat_w (S R : Nat → Nat) {n : Nat} (h : n < 8192) : sp_cat S R n = nI (S n) := if_pos h
theorem sp_cat_r (S R : Nat → Nat) (n : Nat) : sp_cat S R (8192 + n) = nI (R n) := by
  unfold sp_cat
  rw [if_neg (by omega), show 8192 + n - 8192 = n by omega]
theorem sp_cat_uw (S R : Nat → Nat) {n v : Nat} (h : n < 8192) : upd (sp_cat S R) n (nI v) = sp_cat (sp_up S n v) R := by
  funext j
  unfold upd sp_cat sp_up
  by_cases e : j = n
  · subst e
    rw [if_pos rfl, if_pos h, if_pos rfl]
  · rw [if_neg e, if_neg e]
theorem sp_cat_ur (S R : Nat → Nat) {n v : Nat} : upd (sp_cat S R) (8192 + n) (nI v) = sp_cat S (sp_up R n v) := by
  funext j
  unfold upd sp_cat sp_up
  by_cases e : j = 8192 + n
  · subst e
    rw [if_pos rfl, if_neg (by omega), if_pos (by omega)]
  · rw [if_neg e]
    by_cases g : j < 8192
    · rw [if_pos g, if_pos g]
    · rw [if_neg g, if_neg g, if_neg (by omega)]
end SPM
