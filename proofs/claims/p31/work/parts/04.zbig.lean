set_option maxRecDepth 100000 in
set_option maxHeartbeats 4000000 in
theorem wc_L_acts : Cond.code yL_acts cL_acts 14 (some .boolean) ∈ uw := uw_in (i := 266) rfl (by decide +kernel)
set_option maxRecDepth 100000 in
set_option maxHeartbeats 4000000 in
theorem wc_L_stacked : Cond.code yL_stacked cL_stacked 12 (some .boolean) ∈ uw := uw_in (i := 358) rfl (by decide +kernel)
set_option maxRecDepth 100000 in
set_option maxHeartbeats 4000000 in
theorem wc_L_isSo : Cond.code yL_isSo cL_isSo 13 (some .boolean) ∈ uw := uw_in (i := 470) rfl (by decide +kernel)
