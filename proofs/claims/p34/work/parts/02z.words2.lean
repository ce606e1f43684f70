set_option maxRecDepth 1000000 in
set_option maxHeartbeats 4000000 in
theorem tw861 : Cond.code yL_refuses cL_refuses 11 (some .boolean) ∈ TB := tb_in 878 rfl (by decide +kernel)
set_option maxRecDepth 1000000 in
set_option maxHeartbeats 4000000 in
theorem tw932 : Cond.code yL_holds cL_holds 20 (some .boolean) ∈ TB := tb_in 949 rfl (by decide +kernel)
