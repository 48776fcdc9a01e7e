/-! PURE: what the public methods answer -/
section SPU
theorem hw_f {v : Int32} (h : v = 0 ∨ v = 1) : fits .boolean (.int v) = true := by
  rcases h with rfl | rfl <;> decide +kernel
def sp_iw (v lo hi : Int32) : Int32 := if v < lo ∨ hi < v then 0 else 1
theorem sp_iw_0 {v lo hi : Int32} (h : v < lo ∨ hi < v) : sp_iw v lo hi = 0 := if_pos h
theorem sp_iw_1 {v lo hi : Int32} (h1 : ¬ v < lo) (h2 : ¬ hi < v) : sp_iw v lo hi = 1 := if_neg (by rintro (q | q) <;> contradiction)
theorem sp_iw_01 (v lo hi : Int32) : sp_iw v lo hi = 0 ∨ sp_iw v lo hi = 1 := by
  unfold sp_iw
  split
  · exact Or.inl rfl
  · exact Or.inr rfl
theorem sp_iw_n {n a b : Nat} (hb : b < 65536) (h1 : a ≤ n) (h2 : n ≤ b) : sp_iw (nI n) (nI a) (nI b) = 1 := sp_iw_1 (nI_nlt h1 (by omega)) (nI_nlt h2 (by omega))
def sp_pl0 (p q : Int32) : Int32 := if q = 0 then sp_iw p (-16) (-1) else if ¬ sp_iw q (-16) (-1) = 0 ∧ ¬ sp_iw p (-16) 15 = 0 then 1 else 0
def sp_pl1 (p q : Int32) : Int32 := if ¬ sp_iw p (-16) 15 = 0 ∧ ¬ sp_iw q (-16) 15 = 0 then 1 else 0
def sp_at (sf : Bool) (w h : Int32) (f : Nat → Int32) (x y : Int32) : Int32 := if sf = false ∨ sp_ho w h x y = 0 then -1 else sp_px (nI 40) w h f x y
theorem sp_at_0 {sf : Bool} {w h : Int32} {f : Nat → Int32} {x y : Int32} (hq : sf = false ∨ sp_ho w h x y = 0) : sp_at sf w h f x y = -1 := if_pos hq
theorem sp_at_1 {sf : Bool} {w h : Int32} {f : Nat → Int32} {x y : Int32} (h1 : sf = true) (h2 : ¬ sp_ho w h x y = 0) : sp_at sf w h f x y = sp_px (nI 40) w h f x y := if_neg (fun q => q.elim (fun z => by rw [h1] at z; cases z) h2)
end SPU
