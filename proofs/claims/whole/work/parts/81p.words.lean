set_option maxRecDepth 20000 in
theorem lw_u_wsX110 : ∀ w ∈ wsX110, w ∈ lw_tbl := fun w h => (goodIn_of wsX110 (by decide +kernel) w h).1
set_option maxRecDepth 20000 in
theorem lw_u_wsX50 : ∀ w ∈ wsX50, w ∈ lw_tbl := fun w h => (goodIn_of wsX50 (by decide +kernel) w h).1
set_option maxRecDepth 20000 in
theorem lw_u_wsX10 : ∀ w ∈ wsX10, w ∈ lw_tbl := fun w h => (goodIn_of wsX10 (by decide +kernel) w h).1
set_option maxRecDepth 20000 in
theorem lw_u_wsX40 : ∀ w ∈ wsX40, w ∈ lw_tbl := fun w h => (goodIn_of wsX40 (by decide +kernel) w h).1
set_option maxRecDepth 20000 in
theorem lw_u_wsX70 : ∀ w ∈ wsX70, w ∈ lw_tbl := fun w h => (goodIn_of wsX70 (by decide +kernel) w h).1
set_option maxRecDepth 20000 in
theorem lw_u_wsX30 : ∀ w ∈ wsX30, w ∈ lw_tbl := fun w h => (goodIn_of wsX30 (by decide +kernel) w h).1
set_option maxRecDepth 20000 in
theorem lw_u_wsX00 : ∀ w ∈ wsX00, w ∈ lw_tbl := fun w h => (goodIn_of wsX00 (by decide +kernel) w h).1
set_option maxRecDepth 20000 in
theorem lw_u_wsX100 : ∀ w ∈ wsX100, w ∈ lw_tbl := fun w h => (goodIn_of wsX100 (by decide +kernel) w h).1
set_option maxRecDepth 20000 in
theorem lw_u_wsX60 : ∀ w ∈ wsX60, w ∈ lw_tbl := fun w h => (goodIn_of wsX60 (by decide +kernel) w h).1
set_option maxRecDepth 20000 in
theorem lw_u_wsX80 : ∀ w ∈ wsX80, w ∈ lw_tbl := fun w h => (goodIn_of wsX80 (by decide +kernel) w h).1
set_option maxRecDepth 20000 in
theorem lw_u_wsX90 : ∀ w ∈ wsX90, w ∈ lw_tbl := fun w h => (goodIn_of wsX90 (by decide +kernel) w h).1
set_option maxRecDepth 20000 in
theorem lw_u_wsX20 : ∀ w ∈ wsX20, w ∈ lw_tbl := fun w h => (goodIn_of wsX20 (by decide +kernel) w h).1
set_option maxRecDepth 20000 in
theorem lw_u_wsX120 : ∀ w ∈ wsX120, w ∈ lw_tbl := fun w h => (goodIn_of wsX120 (by decide +kernel) w h).1
set_option maxRecDepth 20000 in
theorem lw_x0 : ∀ w ∈ (vx_atS RX11 61 "java/lang/IllegalArgumentException" ["java/lang/RuntimeException", "java/lang/Exception"]).filter goodWord, w ∈ lw_tbl := fun w h => (goodIn_of ((vx_atS RX11 61 "java/lang/IllegalArgumentException" ["java/lang/RuntimeException", "java/lang/Exception"]).filter goodWord) (by decide +kernel) w h).1
set_option maxRecDepth 20000 in
theorem lw_x1 : ∀ w ∈ (vx_atS RX11 440 "java/lang/IndexOutOfBoundsException" ["java/lang/RuntimeException", "java/lang/Exception"]).filter goodWord, w ∈ lw_tbl := fun w h => (goodIn_of ((vx_atS RX11 440 "java/lang/IndexOutOfBoundsException" ["java/lang/RuntimeException", "java/lang/Exception"]).filter goodWord) (by decide +kernel) w h).1
set_option maxRecDepth 20000 in
theorem lw_x2 : ∀ w ∈ (vx_atS RX11 112 "java/lang/IllegalStateException" ["java/lang/RuntimeException", "java/lang/Exception"]).filter goodWord, w ∈ lw_tbl := fun w h => (goodIn_of ((vx_atS RX11 112 "java/lang/IllegalStateException" ["java/lang/RuntimeException", "java/lang/Exception"]).filter goodWord) (by decide +kernel) w h).1
set_option maxRecDepth 20000 in
theorem lw_x3 : ∀ w ∈ (vx_wdN).filter goodWord, w ∈ lw_tbl := fun w h => (goodIn_of ((vx_wdN).filter goodWord) (by decide +kernel) w h).1
