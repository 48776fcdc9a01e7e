-- the law's words stand in the tables: piece by piece
theorem lwi_app {a b c : List Cond} (ha : ∀ w ∈ a, w ∈ c) (hb : ∀ w ∈ b, w ∈ c) : ∀ w ∈ a ++ b, w ∈ c := fun w h => (List.mem_append.mp h).elim (ha w) (hb w)
set_option maxRecDepth 20000 in
theorem lwi_1 : ∀ w ∈ wsL_law0_r1, w ∈ lw_tbl := by decide +kernel
set_option maxRecDepth 20000 in
theorem lwi_2 : ∀ w ∈ wsL_law0_r2, w ∈ lw_tbl := by decide +kernel
set_option maxRecDepth 20000 in
theorem lwi_3 : ∀ w ∈ wsL_law0_r3, w ∈ lw_tbl := by decide +kernel
set_option maxRecDepth 20000 in
theorem lwi_4 : ∀ w ∈ wsL_law0_r4, w ∈ lw_tbl := by decide +kernel
set_option maxRecDepth 20000 in
theorem lwi_5a : ∀ w ∈ wsL_law0_r5.take 13, w ∈ lw_tbl := by decide +kernel
set_option maxRecDepth 20000 in
theorem lwi_5b : ∀ w ∈ wsL_law0_r5.drop 14, w ∈ lw_tbl := by decide +kernel
theorem lwi_5c : Cond.code yX8_init cX8_init 1 none ∈ lw_tbl := List.mem_append_right _ (List.mem_append_right _ (List.mem_append_right _ (List.mem_append_left _ (List.mem_of_getElem? (i := 153) rfl))))
theorem lwi_5 : ∀ w ∈ wsL_law0_r5, w ∈ lw_tbl := by
  intro w h
  rw [← List.take_append_drop 13 wsL_law0_r5] at h
  rcases List.mem_append.mp h with h | h
  · exact lwi_5a w h
  · have h : w ∈ Cond.code yX8_init cX8_init 1 none :: wsL_law0_r5.drop 14 := h
    rcases List.mem_cons.mp h with e | h
    · rw [e]; exact lwi_5c
    · exact lwi_5b w h
set_option maxRecDepth 20000 in
theorem lwi_6 : ∀ w ∈ wsL_law0_r6, w ∈ lw_tbl := by decide +kernel
set_option maxRecDepth 20000 in
theorem lwi_7 : ∀ w ∈ wsL_law0_r7, w ∈ lw_tbl := by decide +kernel
set_option maxRecDepth 20000 in
theorem lwi_8 : ∀ w ∈ wsL_law0_r8, w ∈ lw_tbl := by decide +kernel
set_option maxRecDepth 20000 in
theorem lwi_9 : ∀ w ∈ wsL_law0_r9, w ∈ lw_tbl := by decide +kernel
set_option maxRecDepth 20000 in
theorem lwi_10 : ∀ w ∈ wsL_law0_r10, w ∈ lw_tbl := by decide +kernel
set_option maxRecDepth 20000 in
theorem lwi_11 : ∀ w ∈ wsL_law0_r11, w ∈ lw_tbl := by decide +kernel
set_option maxRecDepth 20000 in
theorem lwi_12 : ∀ w ∈ wsL_law0_r12, w ∈ lw_tbl := by decide +kernel
set_option maxRecDepth 20000 in
theorem lwi_13 : ∀ w ∈ wsL_law0_r13, w ∈ lw_tbl := by decide +kernel
set_option maxRecDepth 20000 in
theorem lwi_14 : ∀ w ∈ wsL_law0_r14, w ∈ lw_tbl := by decide +kernel
set_option maxRecDepth 20000 in
theorem lwi_15 : ∀ w ∈ wsL_law0_r15, w ∈ lw_tbl := by decide +kernel
set_option maxRecDepth 20000 in
theorem lwi_16 : ∀ w ∈ wsL_law0_r16, w ∈ lw_tbl := by decide +kernel
set_option maxRecDepth 20000 in
theorem lwi_17 : ∀ w ∈ wsL_law0_r17, w ∈ lw_tbl := by decide +kernel
set_option maxRecDepth 20000 in
theorem lwi_18 : ∀ w ∈ wsL_law0_r18, w ∈ lw_tbl := by decide +kernel
set_option maxRecDepth 20000 in
theorem lwi_19 : ∀ w ∈ wsL_law0_r19, w ∈ lw_tbl := by decide +kernel
set_option maxRecDepth 20000 in
theorem lwi_20 : ∀ w ∈ wsL_law0_r20, w ∈ lw_tbl := by decide +kernel
set_option maxRecDepth 20000 in
theorem lwi_21 : ∀ w ∈ wsL_law0_r21, w ∈ lw_tbl := by decide +kernel
set_option maxRecDepth 20000 in
theorem lwi_22 : ∀ w ∈ wsL_law0_r22, w ∈ lw_tbl := by decide +kernel
set_option maxRecDepth 20000 in
theorem lwi_23 : ∀ w ∈ wsL_law0_r23, w ∈ lw_tbl := by decide +kernel
set_option maxRecDepth 20000 in
theorem lwi_24 : ∀ w ∈ wsL_law0_r24, w ∈ lw_tbl := by decide +kernel
set_option maxRecDepth 20000 in
theorem lwi_25 : ∀ w ∈ wsL_law0_r25, w ∈ lw_tbl := by decide +kernel
set_option maxRecDepth 20000 in
theorem lwi_X1 : ∀ w ∈ wsX10, w ∈ lw_tbl := by decide +kernel
set_option maxRecDepth 20000 in
theorem lwi_X2 : ∀ w ∈ wsX20, w ∈ lw_tbl := by decide +kernel
set_option maxRecDepth 20000 in
theorem lwi_X3 : ∀ w ∈ wsX30, w ∈ lw_tbl := by decide +kernel
set_option maxRecDepth 20000 in
theorem lwi_X4 : ∀ w ∈ wsX40, w ∈ lw_tbl := by decide +kernel
set_option maxRecDepth 20000 in
theorem lwi_X5 : ∀ w ∈ wsX50, w ∈ lw_tbl := by decide +kernel
set_option maxRecDepth 20000 in
theorem lwi_X6 : ∀ w ∈ wsX60, w ∈ lw_tbl := by decide +kernel
set_option maxRecDepth 20000 in
theorem lwi_X7 : ∀ w ∈ wsX70, w ∈ lw_tbl := by decide +kernel
set_option maxRecDepth 20000 in
theorem lwi_X8 : ∀ w ∈ wsX80, w ∈ lw_tbl := by decide +kernel
set_option maxRecDepth 20000 in
theorem wsL_law_x0 : ∀ w ∈ (vx_atS RX7 86 "java/lang/IllegalArgumentException" ["java/lang/RuntimeException", "java/lang/Exception"]).filter goodWord, w ∈ lw_tbl := by decide +kernel
set_option maxRecDepth 20000 in
theorem wsL_law_x1 : ∀ w ∈ (vx_atS RX7 112 "java/lang/IndexOutOfBoundsException" ["java/lang/RuntimeException", "java/lang/Exception"]).filter goodWord, w ∈ lw_tbl := by decide +kernel
set_option maxRecDepth 20000 in
theorem wsL_law_x2 : ∀ w ∈ (vx_atS RX7 217 "java/lang/IllegalStateException" ["java/lang/RuntimeException", "java/lang/Exception"]).filter goodWord, w ∈ lw_tbl := by decide +kernel
theorem wsL_law_in0 : ∀ w ∈ wsL_law0, w ∈ lw_tbl := (lwi_app (lwi_app (lwi_app (lwi_app (lwi_app (lwi_app (lwi_app (lwi_app (lwi_app (lwi_app lwi_1 (lwi_app lwi_2 (lwi_app lwi_3 (lwi_app lwi_4 (lwi_app lwi_5 (lwi_app lwi_6 (lwi_app lwi_7 (lwi_app lwi_8 (lwi_app lwi_9 (lwi_app lwi_10 (lwi_app lwi_11 (lwi_app lwi_12 (lwi_app lwi_13 (lwi_app lwi_14 (lwi_app lwi_15 (lwi_app lwi_16 (lwi_app lwi_17 (lwi_app lwi_18 (lwi_app lwi_19 (lwi_app lwi_20 (lwi_app lwi_21 (lwi_app lwi_22 (lwi_app lwi_23 (lwi_app lwi_24 lwi_25)))))))))))))))))))))))) lwi_X7) lwi_X8) lwi_X1) lwi_X5) lwi_X2) lwi_X6) lwi_X3) lwi_X4) (fun w h => absurd h (List.not_mem_nil)))
theorem wsL_law_in : ∀ w ∈ wsL_law, w ∈ lw_tbl := lwi_app (lwi_app (lwi_app wsL_law_in0 wsL_law_x0) wsL_law_x1) wsL_law_x2
set_option maxRecDepth 20000 in
theorem lwi_nw : ∀ w ∈ nw_L, w ∈ lw_tbl := by decide +kernel
set_option maxRecDepth 20000 in
theorem lwi_xw : ∀ w ∈ xt_W, w ∈ lw_tbl := by decide +kernel
set_option maxRecDepth 20000 in
theorem lwi_xs : ∀ q ∈ xt_S, Cond.stringRef RX7 q.1 q.2 ∈ lw_tbl := by decide +kernel
/-- the place j of the table, as the start has it -/
def tabw (j : Nat) : Cond := Cond.eq (.elem (.static "RefineRegions$States" "TABLE" "[I") (.int (Int32.ofNat j))) (.int (nI (sp_t j)))
set_option maxRecDepth 20000 in
theorem lwi_tab0 : ((flatC (Jvm.Cond.and given_1 narrow_1)).drop 9).take 188 = (List.range 188).map tabw := by decide +kernel
theorem lwi_tab (j : Nat) (hj : j < 188) : tabw j ∈ flatC (Jvm.Cond.and given_1 narrow_1) := List.mem_of_mem_drop (List.mem_of_mem_take (by rw [lwi_tab0]; exact List.mem_map.mpr ⟨j, List.mem_range.mpr hj, rfl⟩))
