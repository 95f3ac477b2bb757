/-! the law's words are the tables' -/
set_option maxRecDepth 20000 in
theorem wlr_28 : ∀ w ∈ wsL_law0_r28, w ∈ lw_tbl := fun w h => (goodIn_p wsL_law0_r28 [729, 1009, 737, 1013, 744] (by decide +kernel) (by decide +kernel) w h).1
set_option maxRecDepth 20000 in
theorem wlr_29 : ∀ w ∈ wsL_law0_r29, w ∈ lw_tbl := fun w h => (goodIn_p wsL_law0_r29 [483, 487, 1017, 1021, 1025, 1029] (by decide +kernel) (by decide +kernel) w h).1
set_option maxRecDepth 20000 in
theorem wlr_30 : ∀ w ∈ wsL_law0_r30, w ∈ lw_tbl := fun w h => (goodIn_p wsL_law0_r30 [303, 1033, 1037, 314, 318] (by decide +kernel) (by decide +kernel) w h).1
set_option maxRecDepth 20000 in
theorem wlr_31 : ∀ w ∈ wsL_law0_r31, w ∈ lw_tbl := fun w h => (goodIn_p wsL_law0_r31 [1041, 1045, 1049, 368, 373, 1053] (by decide +kernel) (by decide +kernel) w h).1
set_option maxRecDepth 20000 in
theorem wlr_32 : ∀ w ∈ wsL_law0_r32, w ∈ lw_tbl := fun w h => (goodIn_p wsL_law0_r32 [1057, 377, 470, 475, 493] (by decide +kernel) (by decide +kernel) w h).1
set_option maxRecDepth 20000 in
theorem wlr_33 : ∀ w ∈ wsL_law0_r33, w ∈ lw_tbl := fun w h => (goodIn_p wsL_law0_r33 [499, 1061, 1066] (by decide +kernel) (by decide +kernel) w h).1
set_option maxRecDepth 20000 in
theorem wlr_34 : ∀ w ∈ wsL_law0_r34, w ∈ lw_tbl := fun w h => (goodIn_p wsL_law0_r34 [1069] (by decide +kernel) (by decide +kernel) w h).1
theorem wlx_X3 : ∀ w ∈ wsX30, w ∈ lw_tbl := by decide +kernel
theorem wlx_X4 : ∀ w ∈ wsX40, w ∈ lw_tbl := by decide +kernel
theorem wlx_X0 : ∀ w ∈ wsX00, w ∈ lw_tbl := by decide +kernel
theorem wlx_X1 : ∀ w ∈ wsX10, w ∈ lw_tbl := by decide +kernel
theorem wlx_X2 : ∀ w ∈ wsX20, w ∈ lw_tbl := by decide +kernel
theorem wl_app {a b t : List Cond} (ha : ∀ w ∈ a, w ∈ t) (hb : ∀ w ∈ b, w ∈ t) : ∀ w ∈ a ++ b, w ∈ t := fun w h => (List.mem_append.mp h).elim (ha w) (hb w)
theorem wsL_law_in0 : ∀ w ∈ wsL_law0, w ∈ lw_tbl := (wl_app (wl_app (wl_app (wl_app (wl_app (wl_app (wl_app wlr_1 (wl_app wlr_2 (wl_app wlr_3 (wl_app wlr_4 (wl_app wlr_5 (wl_app wlr_6 (wl_app wlr_7 (wl_app wlr_8 (wl_app wlr_9 (wl_app wlr_10 (wl_app wlr_11 (wl_app wlr_12 (wl_app wlr_13 (wl_app wlr_14 (wl_app wlr_15 (wl_app wlr_16 (wl_app wlr_17 (wl_app wlr_18 (wl_app wlr_19 (wl_app wlr_20 (wl_app wlr_21 (wl_app wlr_22 (wl_app wlr_23 (wl_app wlr_24 (wl_app wlr_25 (wl_app wlr_26 (wl_app wlr_27 (wl_app wlr_28 (wl_app wlr_29 (wl_app wlr_30 (wl_app wlr_31 (wl_app wlr_32 (wl_app wlr_33 wlr_34))))))))))))))))))))))))))))))))) wlx_X3) wlx_X4) wlx_X0) wlx_X1) wlx_X2) (fun _ h => absurd h List.not_mem_nil))
theorem wsL_law_x0 : ∀ w ∈ (vx_atS RX3 56 "java/lang/IllegalArgumentException" ["java/lang/RuntimeException", "java/lang/Exception"]).filter goodWord, w ∈ lw_tbl := by decide +kernel
theorem wsL_law_x1 : ∀ w ∈ (vx_atS RX3 67 "java/lang/IllegalStateException" ["java/lang/RuntimeException", "java/lang/Exception"]).filter goodWord, w ∈ lw_tbl := by decide +kernel
theorem wsL_law_x2 : ∀ w ∈ (vx_atS RX3 109 "java/lang/IndexOutOfBoundsException" ["java/lang/RuntimeException", "java/lang/Exception"]).filter goodWord, w ∈ lw_tbl := by decide +kernel
theorem wsL_law_in : ∀ w ∈ wsL_law, w ∈ lw_tbl := fun w h => (List.mem_append.mp h).elim (fun h => (List.mem_append.mp h).elim (fun h => (List.mem_append.mp h).elim (fun h => wsL_law_in0 w h) (fun h => wsL_law_x0 w h)) (fun h => wsL_law_x1 w h)) (fun h => wsL_law_x2 w h)
