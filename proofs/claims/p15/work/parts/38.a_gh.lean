/-! the words of the law's calls are the tables': by their places (printed by wip/tools/goods.py) -/
theorem goodIn_cons {big a : List Cond} {c : Cond} (hc : GoodIn big [c]) (ha : GoodIn big a) : GoodIn big (c :: a) := fun w h => (List.mem_cons.mp h).elim (fun e => hc w (by rw [e]; exact List.mem_singleton.mpr rfl)) (ha w)
set_option maxRecDepth 20000 in
theorem gwX00 : GoodIn lw_tbl wsX00 := goodIn_p wsX00 [] (by decide +kernel) (by decide +kernel)
theorem wsX00_in : ∀ w ∈ wsX00, w ∈ lw_tbl := fun w h => (gwX00 w h).1
set_option maxRecDepth 20000 in
theorem gwX10 : GoodIn lw_tbl wsX10 := goodIn_p wsX10 [] (by decide +kernel) (by decide +kernel)
theorem wsX10_in : ∀ w ∈ wsX10, w ∈ lw_tbl := fun w h => (gwX10 w h).1
set_option maxRecDepth 20000 in
theorem gwX20 : GoodIn lw_tbl wsX20 := goodIn_p wsX20 [] (by decide +kernel) (by decide +kernel)
theorem wsX20_in : ∀ w ∈ wsX20, w ∈ lw_tbl := fun w h => (gwX20 w h).1
set_option maxRecDepth 20000 in
theorem gwX30 : GoodIn lw_tbl wsX30 := goodIn_p wsX30 [] (by decide +kernel) (by decide +kernel)
theorem wsX30_in : ∀ w ∈ wsX30, w ∈ lw_tbl := fun w h => (gwX30 w h).1
set_option maxRecDepth 20000 in
theorem gwX40 : GoodIn lw_tbl wsX40 := goodIn_p wsX40 [] (by decide +kernel) (by decide +kernel)
theorem wsX40_in : ∀ w ∈ wsX40, w ∈ lw_tbl := fun w h => (gwX40 w h).1
set_option maxRecDepth 20000 in
theorem gwX50 : GoodIn lw_tbl wsX50 := goodIn_p wsX50 [] (by decide +kernel) (by decide +kernel)
theorem wsX50_in : ∀ w ∈ wsX50, w ∈ lw_tbl := fun w h => (gwX50 w h).1
set_option maxRecDepth 20000 in
theorem gwX60 : GoodIn lw_tbl wsX60 := goodIn_p wsX60 [] (by decide +kernel) (by decide +kernel)
theorem wsX60_in : ∀ w ∈ wsX60, w ∈ lw_tbl := fun w h => (gwX60 w h).1
set_option maxRecDepth 20000 in
theorem gwX70 : GoodIn lw_tbl wsX70 := goodIn_p wsX70 [] (by decide +kernel) (by decide +kernel)
theorem wsX70_in : ∀ w ∈ wsX70, w ∈ lw_tbl := fun w h => (gwX70 w h).1
set_option maxRecDepth 20000 in
theorem gwX80 : GoodIn lw_tbl wsX80 := goodIn_p wsX80 [] (by decide +kernel) (by decide +kernel)
theorem wsX80_in : ∀ w ∈ wsX80, w ∈ lw_tbl := fun w h => (gwX80 w h).1
set_option maxRecDepth 20000 in
theorem gwX90 : GoodIn lw_tbl wsX90 := goodIn_p wsX90 [] (by decide +kernel) (by decide +kernel)
theorem wsX90_in : ∀ w ∈ wsX90, w ∈ lw_tbl := fun w h => (gwX90 w h).1
theorem gvx0 : GoodIn lw_tbl ((vx_atS RX8 185 "java/lang/IllegalArgumentException" ["java/lang/RuntimeException", "java/lang/Exception"]).filter goodWord) := goodIn_sub (by decide +kernel) (by decide +kernel)
theorem gvx1 : GoodIn lw_tbl ((vx_atS RX8 192 "java/lang/IndexOutOfBoundsException" ["java/lang/RuntimeException", "java/lang/Exception"]).filter goodWord) := goodIn_sub (by decide +kernel) (by decide +kernel)
theorem gvx2 : GoodIn lw_tbl ((vx_atS RX8 200 "java/lang/IllegalStateException" ["java/lang/RuntimeException", "java/lang/Exception"]).filter goodWord) := goodIn_sub (by decide +kernel) (by decide +kernel)
